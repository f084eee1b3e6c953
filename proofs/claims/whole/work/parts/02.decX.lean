theorem dX0_init_0 : decode cX0_init 0 = .ok (.aload_n 0, 1) := by decide +kernel
theorem dX0_init_1 : decode cX0_init 1 = .ok (.iload_n 1, 1) := by decide +kernel
theorem dX0_init_2 : decode cX0_init 2 = .ok (.aload_n 2, 1) := by decide +kernel
theorem dX0_init_3 : decode cX0_init 3 = .ok (.invokespecial 1, 3) := by decide +kernel
theorem dX0_init_6 : decode cX0_init 6 = .ok (.return_, 1) := by decide +kernel
theorem dX0_kindNumber_0 : decode cX0_kindNumber 0 = .ok (.iconst 4, 1) := by decide +kernel
theorem dX0_kindNumber_1 : decode cX0_kindNumber 1 = .ok (.ireturn, 1) := by decide +kernel
theorem dX0_clearedHaze_0 : decode cX0_clearedHaze 0 = .ok (.iconst 4, 1) := by decide +kernel
theorem dX0_clearedHaze_1 : decode cX0_clearedHaze 1 = .ok (.ireturn, 1) := by decide +kernel
theorem dX0_touch_0 : decode cX0_touch 0 = .ok (.aload_n 1, 1) := by decide +kernel
theorem dX0_touch_1 : decode cX0_touch 1 = .ok (.iload_n 2, 1) := by decide +kernel
theorem dX0_touch_2 : decode cX0_touch 2 = .ok (.aload_n 0, 1) := by decide +kernel
theorem dX0_touch_3 : decode cX0_touch 3 = .ok (.invokevirtual 7, 3) := by decide +kernel
theorem dX0_touch_6 : decode cX0_touch 6 = .ok (.invokevirtual 13, 3) := by decide +kernel
theorem dX0_touch_9 : decode cX0_touch 9 = .ok (.aload_n 1, 1) := by decide +kernel
theorem dX0_touch_10 : decode cX0_touch 10 = .ok (.iload_n 2, 1) := by decide +kernel
theorem dX0_touch_11 : decode cX0_touch 11 = .ok (.aload_n 1, 1) := by decide +kernel
theorem dX0_touch_12 : decode cX0_touch 12 = .ok (.getfield 19, 3) := by decide +kernel
theorem dX0_touch_15 : decode cX0_touch 15 = .ok (.iload_n 2, 1) := by decide +kernel
theorem dX0_touch_16 : decode cX0_touch 16 = .ok (.iaload, 1) := by decide +kernel
theorem dX0_touch_17 : decode cX0_touch 17 = .ok (.iconst 1, 1) := by decide +kernel
theorem dX0_touch_18 : decode cX0_touch 18 = .ok (.invokestatic 23, 3) := by decide +kernel
theorem dX0_touch_21 : decode cX0_touch 21 = .ok (.invokevirtual 29, 3) := by decide +kernel
theorem dX0_touch_24 : decode cX0_touch 24 = .ok (.aload_n 1, 1) := by decide +kernel
theorem dX0_touch_25 : decode cX0_touch 25 = .ok (.invokevirtual 32, 3) := by decide +kernel
theorem dX0_touch_28 : decode cX0_touch 28 = .ok (.return_, 1) := by decide +kernel
theorem dX0_size_0 : decode cX0_size 0 = .ok (.aload_n 2, 1) := by decide +kernel
theorem dX0_size_1 : decode cX0_size 1 = .ok (.bipush 13, 2) := by decide +kernel
theorem dX0_size_3 : decode cX0_size 3 = .ok (.invokevirtual 36, 3) := by decide +kernel
theorem dX0_size_6 : decode cX0_size 6 = .ok (.aload_n 0, 1) := by decide +kernel
theorem dX0_size_7 : decode cX0_size 7 = .ok (.iload_n 1, 1) := by decide +kernel
theorem dX0_size_8 : decode cX0_size 8 = .ok (.aload_n 2, 1) := by decide +kernel
theorem dX0_size_9 : decode cX0_size 9 = .ok (.invokespecial 42, 3) := by decide +kernel
theorem dX0_size_12 : decode cX0_size 12 = .ok (.bipush 100, 2) := by decide +kernel
theorem dX0_size_14 : decode cX0_size 14 = .ok (.isub, 1) := by decide +kernel
theorem dX0_size_15 : decode cX0_size 15 = .ok (.ireturn, 1) := by decide +kernel
theorem dX0_mark_0 : decode cX0_mark 0 = .ok (.aload_n 2, 1) := by decide +kernel
theorem dX0_mark_1 : decode cX0_mark 1 = .ok (.bipush 23, 2) := by decide +kernel
theorem dX0_mark_3 : decode cX0_mark 3 = .ok (.invokevirtual 36, 3) := by decide +kernel
theorem dX0_mark_6 : decode cX0_mark 6 = .ok (.aload_n 0, 1) := by decide +kernel
theorem dX0_mark_7 : decode cX0_mark 7 = .ok (.iload_n 1, 1) := by decide +kernel
theorem dX0_mark_8 : decode cX0_mark 8 = .ok (.aload_n 2, 1) := by decide +kernel
theorem dX0_mark_9 : decode cX0_mark 9 = .ok (.invokespecial 46, 3) := by decide +kernel
theorem dX0_mark_12 : decode cX0_mark 12 = .ok (.istore_n 3, 1) := by decide +kernel
theorem dX0_mark_13 : decode cX0_mark 13 = .ok (.iload_n 3, 1) := by decide +kernel
theorem dX0_mark_14 : decode cX0_mark 14 = .ok (.aload_n 0, 1) := by decide +kernel
theorem dX0_mark_15 : decode cX0_mark 15 = .ok (.iload_n 1, 1) := by decide +kernel
theorem dX0_mark_16 : decode cX0_mark 16 = .ok (.aload_n 2, 1) := by decide +kernel
theorem dX0_mark_17 : decode cX0_mark 17 = .ok (.invokevirtual 49, 3) := by decide +kernel
theorem dX0_mark_20 : decode cX0_mark 20 = .ok (.isub, 1) := by decide +kernel
theorem dX0_mark_21 : decode cX0_mark 21 = .ok (.ireturn, 1) := by decide +kernel
theorem dX1_init_0 : decode cX1_init 0 = .ok (.aload_n 0, 1) := by decide +kernel
theorem dX1_init_1 : decode cX1_init 1 = .ok (.iload_n 1, 1) := by decide +kernel
theorem dX1_init_2 : decode cX1_init 2 = .ok (.aload_n 2, 1) := by decide +kernel
theorem dX1_init_3 : decode cX1_init 3 = .ok (.invokespecial 1, 3) := by decide +kernel
theorem dX1_init_6 : decode cX1_init 6 = .ok (.return_, 1) := by decide +kernel
theorem dX1_kindNumber_0 : decode cX1_kindNumber 0 = .ok (.iconst 3, 1) := by decide +kernel
theorem dX1_kindNumber_1 : decode cX1_kindNumber 1 = .ok (.ireturn, 1) := by decide +kernel
theorem dX1_laid_0 : decode cX1_laid 0 = .ok (.iload_n 1, 1) := by decide +kernel
theorem dX1_laid_1 : decode cX1_laid 1 = .ok (.iconst 2, 1) := by decide +kernel
theorem dX1_laid_2 : decode cX1_laid 2 = .ok (.idiv, 1) := by decide +kernel
theorem dX1_laid_3 : decode cX1_laid 3 = .ok (.ireturn, 1) := by decide +kernel
theorem dX1_takeFirst_0 : decode cX1_takeFirst 0 = .ok (.aload_n 1, 1) := by decide +kernel
theorem dX1_takeFirst_1 : decode cX1_takeFirst 1 = .ok (.getfield 7, 3) := by decide +kernel
theorem dX1_takeFirst_4 : decode cX1_takeFirst 4 = .ok (.ifCond .ne 8, 3) := by decide +kernel
theorem dX1_takeFirst_7 : decode cX1_takeFirst 7 = .ok (.aload_n 1, 1) := by decide +kernel
theorem dX1_takeFirst_8 : decode cX1_takeFirst 8 = .ok (.iload_n 2, 1) := by decide +kernel
theorem dX1_takeFirst_9 : decode cX1_takeFirst 9 = .ok (.invokevirtual 13, 3) := by decide +kernel
theorem dX1_takeFirst_12 : decode cX1_takeFirst 12 = .ok (.return_, 1) := by decide +kernel
theorem dX1_mark_0 : decode cX1_mark 0 = .ok (.aload_n 2, 1) := by decide +kernel
theorem dX1_mark_1 : decode cX1_mark 1 = .ok (.bipush 22, 2) := by decide +kernel
theorem dX1_mark_3 : decode cX1_mark 3 = .ok (.invokevirtual 17, 3) := by decide +kernel
theorem dX1_mark_6 : decode cX1_mark 6 = .ok (.aload_n 0, 1) := by decide +kernel
theorem dX1_mark_7 : decode cX1_mark 7 = .ok (.iload_n 1, 1) := by decide +kernel
theorem dX1_mark_8 : decode cX1_mark 8 = .ok (.aload_n 2, 1) := by decide +kernel
theorem dX1_mark_9 : decode cX1_mark 9 = .ok (.invokespecial 22, 3) := by decide +kernel
theorem dX1_mark_12 : decode cX1_mark 12 = .ok (.sipush 1000, 3) := by decide +kernel
theorem dX1_mark_15 : decode cX1_mark 15 = .ok (.isub, 1) := by decide +kernel
theorem dX1_mark_16 : decode cX1_mark 16 = .ok (.ireturn, 1) := by decide +kernel
theorem dX2_init_0 : decode cX2_init 0 = .ok (.aload_n 0, 1) := by decide +kernel
theorem dX2_init_1 : decode cX2_init 1 = .ok (.invokespecial 1, 3) := by decide +kernel
theorem dX2_init_4 : decode cX2_init 4 = .ok (.aload_n 0, 1) := by decide +kernel
theorem dX2_init_5 : decode cX2_init 5 = .ok (.iload_n 1, 1) := by decide +kernel
theorem dX2_init_6 : decode cX2_init 6 = .ok (.putfield 7, 3) := by decide +kernel
theorem dX2_init_9 : decode cX2_init 9 = .ok (.aload_n 0, 1) := by decide +kernel
theorem dX2_init_10 : decode cX2_init 10 = .ok (.aload_n 2, 1) := by decide +kernel
theorem dX2_init_11 : decode cX2_init 11 = .ok (.putfield 13, 3) := by decide +kernel
theorem dX2_init_14 : decode cX2_init 14 = .ok (.return_, 1) := by decide +kernel
theorem dX2_goAlong_0 : decode cX2_goAlong 0 = .ok (.aload_n 0, 1) := by decide +kernel
theorem dX2_goAlong_1 : decode cX2_goAlong 1 = .ok (.getfield 13, 3) := by decide +kernel
theorem dX2_goAlong_4 : decode cX2_goAlong 4 = .ok (.astore_n 2, 1) := by decide +kernel
theorem dX2_goAlong_5 : decode cX2_goAlong 5 = .ok (.aload_n 2, 1) := by decide +kernel
theorem dX2_goAlong_6 : decode cX2_goAlong 6 = .ok (.arraylength, 1) := by decide +kernel
theorem dX2_goAlong_7 : decode cX2_goAlong 7 = .ok (.istore_n 3, 1) := by decide +kernel
theorem dX2_goAlong_8 : decode cX2_goAlong 8 = .ok (.iconst 0, 1) := by decide +kernel
theorem dX2_goAlong_9 : decode cX2_goAlong 9 = .ok (.istore 4, 2) := by decide +kernel
theorem dX2_goAlong_11 : decode cX2_goAlong 11 = .ok (.iload 4, 2) := by decide +kernel
theorem dX2_goAlong_13 : decode cX2_goAlong 13 = .ok (.iload_n 3, 1) := by decide +kernel
theorem dX2_goAlong_14 : decode cX2_goAlong 14 = .ok (.if_icmp .ge 22, 3) := by decide +kernel
theorem dX2_goAlong_17 : decode cX2_goAlong 17 = .ok (.aload_n 2, 1) := by decide +kernel
theorem dX2_goAlong_18 : decode cX2_goAlong 18 = .ok (.iload 4, 2) := by decide +kernel
theorem dX2_goAlong_20 : decode cX2_goAlong 20 = .ok (.iaload, 1) := by decide +kernel
theorem dX2_goAlong_21 : decode cX2_goAlong 21 = .ok (.istore 5, 2) := by decide +kernel
theorem dX2_goAlong_23 : decode cX2_goAlong 23 = .ok (.aload_n 0, 1) := by decide +kernel
theorem dX2_goAlong_24 : decode cX2_goAlong 24 = .ok (.aload_n 1, 1) := by decide +kernel
theorem dX2_goAlong_25 : decode cX2_goAlong 25 = .ok (.iload 5, 2) := by decide +kernel
theorem dX2_goAlong_27 : decode cX2_goAlong 27 = .ok (.invokevirtual 17, 3) := by decide +kernel
theorem dX2_goAlong_30 : decode cX2_goAlong 30 = .ok (.iinc 4 1, 3) := by decide +kernel
theorem dX2_goAlong_33 : decode cX2_goAlong 33 = .ok (.goto (-22), 3) := by decide +kernel
theorem dX2_goAlong_36 : decode cX2_goAlong 36 = .ok (.return_, 1) := by decide +kernel
theorem dX2_cells_0 : decode cX2_cells 0 = .ok (.iconst 0, 1) := by decide +kernel
theorem dX2_cells_1 : decode cX2_cells 1 = .ok (.istore_n 1, 1) := by decide +kernel
theorem dX2_cells_2 : decode cX2_cells 2 = .ok (.aload_n 0, 1) := by decide +kernel
theorem dX2_cells_3 : decode cX2_cells 3 = .ok (.getfield 13, 3) := by decide +kernel
theorem dX2_cells_6 : decode cX2_cells 6 = .ok (.astore_n 2, 1) := by decide +kernel
theorem dX2_cells_7 : decode cX2_cells 7 = .ok (.aload_n 2, 1) := by decide +kernel
theorem dX2_cells_8 : decode cX2_cells 8 = .ok (.arraylength, 1) := by decide +kernel
theorem dX2_cells_9 : decode cX2_cells 9 = .ok (.istore_n 3, 1) := by decide +kernel
theorem dX2_cells_10 : decode cX2_cells 10 = .ok (.iconst 0, 1) := by decide +kernel
theorem dX2_cells_11 : decode cX2_cells 11 = .ok (.istore 4, 2) := by decide +kernel
theorem dX2_cells_13 : decode cX2_cells 13 = .ok (.iload 4, 2) := by decide +kernel
theorem dX2_cells_15 : decode cX2_cells 15 = .ok (.iload_n 3, 1) := by decide +kernel
theorem dX2_cells_16 : decode cX2_cells 16 = .ok (.if_icmp .ge 22, 3) := by decide +kernel
theorem dX2_cells_19 : decode cX2_cells 19 = .ok (.aload_n 2, 1) := by decide +kernel
theorem dX2_cells_20 : decode cX2_cells 20 = .ok (.iload 4, 2) := by decide +kernel
theorem dX2_cells_22 : decode cX2_cells 22 = .ok (.iaload, 1) := by decide +kernel
theorem dX2_cells_23 : decode cX2_cells 23 = .ok (.istore 5, 2) := by decide +kernel
theorem dX2_cells_25 : decode cX2_cells 25 = .ok (.iload_n 1, 1) := by decide +kernel
theorem dX2_cells_26 : decode cX2_cells 26 = .ok (.iconst 1, 1) := by decide +kernel
theorem dX2_cells_27 : decode cX2_cells 27 = .ok (.iload 5, 2) := by decide +kernel
theorem dX2_cells_29 : decode cX2_cells 29 = .ok (.ishl, 1) := by decide +kernel
theorem dX2_cells_30 : decode cX2_cells 30 = .ok (.ior, 1) := by decide +kernel
theorem dX2_cells_31 : decode cX2_cells 31 = .ok (.istore_n 1, 1) := by decide +kernel
theorem dX2_cells_32 : decode cX2_cells 32 = .ok (.iinc 4 1, 3) := by decide +kernel
theorem dX2_cells_35 : decode cX2_cells 35 = .ok (.goto (-22), 3) := by decide +kernel
theorem dX2_cells_38 : decode cX2_cells 38 = .ok (.iload_n 1, 1) := by decide +kernel
theorem dX2_cells_39 : decode cX2_cells 39 = .ok (.ireturn, 1) := by decide +kernel
theorem dX2_size_0 : decode cX2_size 0 = .ok (.aload_n 2, 1) := by decide +kernel
theorem dX2_size_1 : decode cX2_size 1 = .ok (.bipush 10, 2) := by decide +kernel
theorem dX2_size_3 : decode cX2_size 3 = .ok (.invokevirtual 21, 3) := by decide +kernel
theorem dX2_size_6 : decode cX2_size 6 = .ok (.aload_n 0, 1) := by decide +kernel
theorem dX2_size_7 : decode cX2_size 7 = .ok (.getfield 13, 3) := by decide +kernel
theorem dX2_size_10 : decode cX2_size 10 = .ok (.arraylength, 1) := by decide +kernel
theorem dX2_size_11 : decode cX2_size 11 = .ok (.ireturn, 1) := by decide +kernel
theorem dX2_mark_0 : decode cX2_mark 0 = .ok (.aload_n 2, 1) := by decide +kernel
theorem dX2_mark_1 : decode cX2_mark 1 = .ok (.bipush 20, 2) := by decide +kernel
theorem dX2_mark_3 : decode cX2_mark 3 = .ok (.invokevirtual 21, 3) := by decide +kernel
theorem dX2_mark_6 : decode cX2_mark 6 = .ok (.aload_n 0, 1) := by decide +kernel
theorem dX2_mark_7 : decode cX2_mark 7 = .ok (.getfield 7, 3) := by decide +kernel
theorem dX2_mark_10 : decode cX2_mark 10 = .ok (.ireturn, 1) := by decide +kernel
theorem dX3_init_0 : decode cX3_init 0 = .ok (.aload_n 0, 1) := by decide +kernel
theorem dX3_init_1 : decode cX3_init 1 = .ok (.invokespecial 3, 3) := by decide +kernel
theorem dX3_init_4 : decode cX3_init 4 = .ok (.aload_n 0, 1) := by decide +kernel
theorem dX3_init_5 : decode cX3_init 5 = .ok (.bipush 40, 2) := by decide +kernel
theorem dX3_init_7 : decode cX3_init 7 = .ok (.newarray .int, 2) := by decide +kernel
theorem dX3_init_9 : decode cX3_init 9 = .ok (.putfield 9, 3) := by decide +kernel
theorem dX3_init_12 : decode cX3_init 12 = .ok (.aload_n 0, 1) := by decide +kernel
theorem dX3_init_13 : decode cX3_init 13 = .ok (.iconst (-1), 1) := by decide +kernel
theorem dX3_init_14 : decode cX3_init 14 = .ok (.putfield 15, 3) := by decide +kernel
theorem dX3_init_17 : decode cX3_init 17 = .ok (.return_, 1) := by decide +kernel
theorem dX3_isMissing_0 : decode cX3_isMissing 0 = .ok (.aload_n 0, 1) := by decide +kernel
theorem dX3_isMissing_1 : decode cX3_isMissing 1 = .ok (.getfield 15, 3) := by decide +kernel
theorem dX3_isMissing_4 : decode cX3_isMissing 4 = .ok (.iconst (-1), 1) := by decide +kernel
theorem dX3_isMissing_5 : decode cX3_isMissing 5 = .ok (.if_icmp .ne 7, 3) := by decide +kernel
theorem dX3_isMissing_8 : decode cX3_isMissing 8 = .ok (.iconst 1, 1) := by decide +kernel
theorem dX3_isMissing_9 : decode cX3_isMissing 9 = .ok (.goto 4, 3) := by decide +kernel
theorem dX3_isMissing_12 : decode cX3_isMissing 12 = .ok (.iconst 0, 1) := by decide +kernel
theorem dX3_isMissing_13 : decode cX3_isMissing 13 = .ok (.ireturn, 1) := by decide +kernel
theorem dX3_begin_0 : decode cX3_begin 0 = .ok (.aload_n 0, 1) := by decide +kernel
theorem dX3_begin_1 : decode cX3_begin 1 = .ok (.iload_n 1, 1) := by decide +kernel
theorem dX3_begin_2 : decode cX3_begin 2 = .ok (.putfield 19, 3) := by decide +kernel
theorem dX3_begin_5 : decode cX3_begin 5 = .ok (.aload_n 0, 1) := by decide +kernel
theorem dX3_begin_6 : decode cX3_begin 6 = .ok (.iload_n 2, 1) := by decide +kernel
theorem dX3_begin_7 : decode cX3_begin 7 = .ok (.putfield 15, 3) := by decide +kernel
theorem dX3_begin_10 : decode cX3_begin 10 = .ok (.aload_n 0, 1) := by decide +kernel
theorem dX3_begin_11 : decode cX3_begin 11 = .ok (.getfield 9, 3) := by decide +kernel
theorem dX3_begin_14 : decode cX3_begin 14 = .ok (.iconst 0, 1) := by decide +kernel
theorem dX3_begin_15 : decode cX3_begin 15 = .ok (.invokestatic 22, 3) := by decide +kernel
theorem dX3_begin_18 : decode cX3_begin 18 = .ok (.return_, 1) := by decide +kernel
theorem dX3_reaches_0 : decode cX3_reaches 0 = .ok (.iload_n 1, 1) := by decide +kernel
theorem dX3_reaches_1 : decode cX3_reaches 1 = .ok (.ifCond .lt 21, 3) := by decide +kernel
theorem dX3_reaches_4 : decode cX3_reaches 4 = .ok (.iload_n 2, 1) := by decide +kernel
theorem dX3_reaches_5 : decode cX3_reaches 5 = .ok (.ifCond .lt 17, 3) := by decide +kernel
theorem dX3_reaches_8 : decode cX3_reaches 8 = .ok (.iload_n 2, 1) := by decide +kernel
theorem dX3_reaches_9 : decode cX3_reaches 9 = .ok (.aload_n 0, 1) := by decide +kernel
theorem dX3_reaches_10 : decode cX3_reaches 10 = .ok (.getfield 15, 3) := by decide +kernel
theorem dX3_reaches_13 : decode cX3_reaches 13 = .ok (.iload_n 1, 1) := by decide +kernel
theorem dX3_reaches_14 : decode cX3_reaches 14 = .ok (.isub, 1) := by decide +kernel
theorem dX3_reaches_15 : decode cX3_reaches 15 = .ok (.if_icmp .gt 7, 3) := by decide +kernel
theorem dX3_reaches_18 : decode cX3_reaches 18 = .ok (.iconst 1, 1) := by decide +kernel
theorem dX3_reaches_19 : decode cX3_reaches 19 = .ok (.goto 4, 3) := by decide +kernel
theorem dX3_reaches_22 : decode cX3_reaches 22 = .ok (.iconst 0, 1) := by decide +kernel
theorem dX3_reaches_23 : decode cX3_reaches 23 = .ok (.ireturn, 1) := by decide +kernel
theorem dX3_put_0 : decode cX3_put 0 = .ok (.aload_n 0, 1) := by decide +kernel
theorem dX3_put_1 : decode cX3_put 1 = .ok (.getfield 19, 3) := by decide +kernel
theorem dX3_put_4 : decode cX3_put 4 = .ok (.ifCond .ne 14, 3) := by decide +kernel
theorem dX3_put_7 : decode cX3_put 7 = .ok (.aload_n 0, 1) := by decide +kernel
theorem dX3_put_8 : decode cX3_put 8 = .ok (.getfield 9, 3) := by decide +kernel
theorem dX3_put_11 : decode cX3_put 11 = .ok (.iload_n 1, 1) := by decide +kernel
theorem dX3_put_12 : decode cX3_put 12 = .ok (.iload_n 2, 1) := by decide +kernel
theorem dX3_put_13 : decode cX3_put 13 = .ok (.i2b, 1) := by decide +kernel
theorem dX3_put_14 : decode cX3_put 14 = .ok (.iastore, 1) := by decide +kernel
theorem dX3_put_15 : decode cX3_put 15 = .ok (.goto 29, 3) := by decide +kernel
theorem dX3_put_18 : decode cX3_put 18 = .ok (.aload_n 0, 1) := by decide +kernel
theorem dX3_put_19 : decode cX3_put 19 = .ok (.getfield 19, 3) := by decide +kernel
theorem dX3_put_22 : decode cX3_put 22 = .ok (.iconst 1, 1) := by decide +kernel
theorem dX3_put_23 : decode cX3_put 23 = .ok (.if_icmp .ne 14, 3) := by decide +kernel
theorem dX3_put_26 : decode cX3_put 26 = .ok (.aload_n 0, 1) := by decide +kernel
theorem dX3_put_27 : decode cX3_put 27 = .ok (.getfield 9, 3) := by decide +kernel
theorem dX3_put_30 : decode cX3_put 30 = .ok (.iload_n 1, 1) := by decide +kernel
theorem dX3_put_31 : decode cX3_put 31 = .ok (.iload_n 2, 1) := by decide +kernel
theorem dX3_put_32 : decode cX3_put 32 = .ok (.i2s, 1) := by decide +kernel
theorem dX3_put_33 : decode cX3_put 33 = .ok (.iastore, 1) := by decide +kernel
theorem dX3_put_34 : decode cX3_put 34 = .ok (.goto 10, 3) := by decide +kernel
theorem dX3_put_37 : decode cX3_put 37 = .ok (.aload_n 0, 1) := by decide +kernel
theorem dX3_put_38 : decode cX3_put 38 = .ok (.getfield 9, 3) := by decide +kernel
theorem dX3_put_41 : decode cX3_put 41 = .ok (.iload_n 1, 1) := by decide +kernel
theorem dX3_put_42 : decode cX3_put 42 = .ok (.iload_n 2, 1) := by decide +kernel
theorem dX3_put_43 : decode cX3_put 43 = .ok (.iastore, 1) := by decide +kernel
theorem dX3_put_44 : decode cX3_put 44 = .ok (.aload_n 0, 1) := by decide +kernel
theorem dX3_put_45 : decode cX3_put 45 = .ok (.getfield 9, 3) := by decide +kernel
theorem dX3_put_48 : decode cX3_put 48 = .ok (.iload_n 1, 1) := by decide +kernel
theorem dX3_put_49 : decode cX3_put 49 = .ok (.iaload, 1) := by decide +kernel
theorem dX3_put_50 : decode cX3_put 50 = .ok (.ireturn, 1) := by decide +kernel
theorem dX3_tellsFilm_0 : decode cX3_tellsFilm 0 = .ok (.iconst 0, 1) := by decide +kernel
theorem dX3_tellsFilm_1 : decode cX3_tellsFilm 1 = .ok (.istore_n 3, 1) := by decide +kernel
theorem dX3_tellsFilm_2 : decode cX3_tellsFilm 2 = .ok (.iload_n 3, 1) := by decide +kernel
theorem dX3_tellsFilm_3 : decode cX3_tellsFilm 3 = .ok (.bipush 15, 2) := by decide +kernel
theorem dX3_tellsFilm_5 : decode cX3_tellsFilm 5 = .ok (.if_icmp .ge 28, 3) := by decide +kernel
theorem dX3_tellsFilm_8 : decode cX3_tellsFilm 8 = .ok (.aload_n 0, 1) := by decide +kernel
theorem dX3_tellsFilm_9 : decode cX3_tellsFilm 9 = .ok (.getfield 9, 3) := by decide +kernel
theorem dX3_tellsFilm_12 : decode cX3_tellsFilm 12 = .ok (.iload_n 1, 1) := by decide +kernel
theorem dX3_tellsFilm_13 : decode cX3_tellsFilm 13 = .ok (.iload_n 3, 1) := by decide +kernel
theorem dX3_tellsFilm_14 : decode cX3_tellsFilm 14 = .ok (.iadd, 1) := by decide +kernel
theorem dX3_tellsFilm_15 : decode cX3_tellsFilm 15 = .ok (.iaload, 1) := by decide +kernel
theorem dX3_tellsFilm_16 : decode cX3_tellsFilm 16 = .ok (.aload_n 2, 1) := by decide +kernel
theorem dX3_tellsFilm_17 : decode cX3_tellsFilm 17 = .ok (.getfield 28, 3) := by decide +kernel
theorem dX3_tellsFilm_20 : decode cX3_tellsFilm 20 = .ok (.iload_n 3, 1) := by decide +kernel
theorem dX3_tellsFilm_21 : decode cX3_tellsFilm 21 = .ok (.iaload, 1) := by decide +kernel
theorem dX3_tellsFilm_22 : decode cX3_tellsFilm 22 = .ok (.if_icmp .eq 5, 3) := by decide +kernel
theorem dX3_tellsFilm_25 : decode cX3_tellsFilm 25 = .ok (.iconst 0, 1) := by decide +kernel
theorem dX3_tellsFilm_26 : decode cX3_tellsFilm 26 = .ok (.ireturn, 1) := by decide +kernel
theorem dX3_tellsFilm_27 : decode cX3_tellsFilm 27 = .ok (.iinc 3 1, 3) := by decide +kernel
theorem dX3_tellsFilm_30 : decode cX3_tellsFilm 30 = .ok (.goto (-28), 3) := by decide +kernel
theorem dX3_tellsFilm_33 : decode cX3_tellsFilm 33 = .ok (.iconst 1, 1) := by decide +kernel
theorem dX3_tellsFilm_34 : decode cX3_tellsFilm 34 = .ok (.ireturn, 1) := by decide +kernel
theorem dX4_init_0 : decode cX4_init 0 = .ok (.aload_n 0, 1) := by decide +kernel
theorem dX4_init_1 : decode cX4_init 1 = .ok (.iload_n 1, 1) := by decide +kernel
theorem dX4_init_2 : decode cX4_init 2 = .ok (.aload_n 2, 1) := by decide +kernel
theorem dX4_init_3 : decode cX4_init 3 = .ok (.invokespecial 1, 3) := by decide +kernel
theorem dX4_init_6 : decode cX4_init 6 = .ok (.return_, 1) := by decide +kernel
theorem dX4_kindNumber_0 : decode cX4_kindNumber 0 = .ok (.iconst 1, 1) := by decide +kernel
theorem dX4_kindNumber_1 : decode cX4_kindNumber 1 = .ok (.ireturn, 1) := by decide +kernel
theorem dX4_laid_0 : decode cX4_laid 0 = .ok (.iload_n 1, 1) := by decide +kernel
theorem dX4_laid_1 : decode cX4_laid 1 = .ok (.ireturn, 1) := by decide +kernel
theorem dX4_takeFirst_0 : decode cX4_takeFirst 0 = .ok (.return_, 1) := by decide +kernel
theorem dX4_touch_0 : decode cX4_touch 0 = .ok (.aload_n 0, 1) := by decide +kernel
theorem dX4_touch_1 : decode cX4_touch 1 = .ok (.aload_n 1, 1) := by decide +kernel
theorem dX4_touch_2 : decode cX4_touch 2 = .ok (.iload_n 2, 1) := by decide +kernel
theorem dX4_touch_3 : decode cX4_touch 3 = .ok (.invokevirtual 7, 3) := by decide +kernel
theorem dX4_touch_6 : decode cX4_touch 6 = .ok (.aload_n 1, 1) := by decide +kernel
theorem dX4_touch_7 : decode cX4_touch 7 = .ok (.iload_n 2, 1) := by decide +kernel
theorem dX4_touch_8 : decode cX4_touch 8 = .ok (.aload_n 0, 1) := by decide +kernel
theorem dX4_touch_9 : decode cX4_touch 9 = .ok (.aload_n 1, 1) := by decide +kernel
theorem dX4_touch_10 : decode cX4_touch 10 = .ok (.getfield 13, 3) := by decide +kernel
theorem dX4_touch_13 : decode cX4_touch 13 = .ok (.iconst 4, 1) := by decide +kernel
theorem dX4_touch_14 : decode cX4_touch 14 = .ok (.idiv, 1) := by decide +kernel
theorem dX4_touch_15 : decode cX4_touch 15 = .ok (.invokevirtual 19, 3) := by decide +kernel
theorem dX4_touch_18 : decode cX4_touch 18 = .ok (.invokevirtual 23, 3) := by decide +kernel
theorem dX4_touch_21 : decode cX4_touch 21 = .ok (.aload_n 1, 1) := by decide +kernel
theorem dX4_touch_22 : decode cX4_touch 22 = .ok (.iload_n 2, 1) := by decide +kernel
theorem dX4_touch_23 : decode cX4_touch 23 = .ok (.invokevirtual 27, 3) := by decide +kernel
theorem dX4_touch_26 : decode cX4_touch 26 = .ok (.aload_n 1, 1) := by decide +kernel
theorem dX4_touch_27 : decode cX4_touch 27 = .ok (.invokevirtual 31, 3) := by decide +kernel
theorem dX4_touch_30 : decode cX4_touch 30 = .ok (.return_, 1) := by decide +kernel
theorem dX4_size_0 : decode cX4_size 0 = .ok (.aload_n 2, 1) := by decide +kernel
theorem dX4_size_1 : decode cX4_size 1 = .ok (.bipush 11, 2) := by decide +kernel
theorem dX4_size_3 : decode cX4_size 3 = .ok (.invokevirtual 35, 3) := by decide +kernel
theorem dX4_size_6 : decode cX4_size 6 = .ok (.aload_n 0, 1) := by decide +kernel
theorem dX4_size_7 : decode cX4_size 7 = .ok (.iload_n 1, 1) := by decide +kernel
theorem dX4_size_8 : decode cX4_size 8 = .ok (.aload_n 2, 1) := by decide +kernel
theorem dX4_size_9 : decode cX4_size 9 = .ok (.invokespecial 40, 3) := by decide +kernel
theorem dX4_size_12 : decode cX4_size 12 = .ok (.istore_n 3, 1) := by decide +kernel
theorem dX4_size_13 : decode cX4_size 13 = .ok (.iload_n 3, 1) := by decide +kernel
theorem dX4_size_14 : decode cX4_size 14 = .ok (.aload_n 0, 1) := by decide +kernel
theorem dX4_size_15 : decode cX4_size 15 = .ok (.iload_n 1, 1) := by decide +kernel
theorem dX4_size_16 : decode cX4_size 16 = .ok (.aload_n 2, 1) := by decide +kernel
theorem dX4_size_17 : decode cX4_size 17 = .ok (.invokevirtual 44, 3) := by decide +kernel
theorem dX4_size_20 : decode cX4_size 20 = .ok (.iadd, 1) := by decide +kernel
theorem dX4_size_21 : decode cX4_size 21 = .ok (.ireturn, 1) := by decide +kernel
theorem dX4_mark_0 : decode cX4_mark 0 = .ok (.aload_n 2, 1) := by decide +kernel
theorem dX4_mark_1 : decode cX4_mark 1 = .ok (.bipush 21, 2) := by decide +kernel
theorem dX4_mark_3 : decode cX4_mark 3 = .ok (.invokevirtual 35, 3) := by decide +kernel
theorem dX4_mark_6 : decode cX4_mark 6 = .ok (.aload_n 0, 1) := by decide +kernel
theorem dX4_mark_7 : decode cX4_mark 7 = .ok (.iload_n 1, 1) := by decide +kernel
theorem dX4_mark_8 : decode cX4_mark 8 = .ok (.aload_n 2, 1) := by decide +kernel
theorem dX4_mark_9 : decode cX4_mark 9 = .ok (.invokespecial 47, 3) := by decide +kernel
theorem dX4_mark_12 : decode cX4_mark 12 = .ok (.iload_n 1, 1) := by decide +kernel
theorem dX4_mark_13 : decode cX4_mark 13 = .ok (.iadd, 1) := by decide +kernel
theorem dX4_mark_14 : decode cX4_mark 14 = .ok (.ireturn, 1) := by decide +kernel
theorem dX5_init_0 : decode cX5_init 0 = .ok (.aload_n 0, 1) := by decide +kernel
theorem dX5_init_1 : decode cX5_init 1 = .ok (.iload_n 1, 1) := by decide +kernel
theorem dX5_init_2 : decode cX5_init 2 = .ok (.aload_n 2, 1) := by decide +kernel
theorem dX5_init_3 : decode cX5_init 3 = .ok (.invokespecial 1, 3) := by decide +kernel
theorem dX5_init_6 : decode cX5_init 6 = .ok (.return_, 1) := by decide +kernel
theorem dX5_kindNumber_0 : decode cX5_kindNumber 0 = .ok (.iconst 2, 1) := by decide +kernel
theorem dX5_kindNumber_1 : decode cX5_kindNumber 1 = .ok (.ireturn, 1) := by decide +kernel
theorem dX5_laid_0 : decode cX5_laid 0 = .ok (.iload_n 1, 1) := by decide +kernel
theorem dX5_laid_1 : decode cX5_laid 1 = .ok (.iconst 2, 1) := by decide +kernel
theorem dX5_laid_2 : decode cX5_laid 2 = .ok (.imul, 1) := by decide +kernel
theorem dX5_laid_3 : decode cX5_laid 3 = .ok (.ireturn, 1) := by decide +kernel
theorem dX5_takeFirst_0 : decode cX5_takeFirst 0 = .ok (.aload_n 1, 1) := by decide +kernel
theorem dX5_takeFirst_1 : decode cX5_takeFirst 1 = .ok (.iload_n 2, 1) := by decide +kernel
theorem dX5_takeFirst_2 : decode cX5_takeFirst 2 = .ok (.aload_n 1, 1) := by decide +kernel
theorem dX5_takeFirst_3 : decode cX5_takeFirst 3 = .ok (.getfield 7, 3) := by decide +kernel
theorem dX5_takeFirst_6 : decode cX5_takeFirst 6 = .ok (.iload_n 2, 1) := by decide +kernel
theorem dX5_takeFirst_7 : decode cX5_takeFirst 7 = .ok (.iaload, 1) := by decide +kernel
theorem dX5_takeFirst_8 : decode cX5_takeFirst 8 = .ok (.iconst 2, 1) := by decide +kernel
theorem dX5_takeFirst_9 : decode cX5_takeFirst 9 = .ok (.idiv, 1) := by decide +kernel
theorem dX5_takeFirst_10 : decode cX5_takeFirst 10 = .ok (.invokevirtual 13, 3) := by decide +kernel
theorem dX5_takeFirst_13 : decode cX5_takeFirst 13 = .ok (.return_, 1) := by decide +kernel
theorem dX5_size_0 : decode cX5_size 0 = .ok (.aload_n 2, 1) := by decide +kernel
theorem dX5_size_1 : decode cX5_size 1 = .ok (.bipush 12, 2) := by decide +kernel
theorem dX5_size_3 : decode cX5_size 3 = .ok (.invokevirtual 17, 3) := by decide +kernel
theorem dX5_size_6 : decode cX5_size 6 = .ok (.aload_n 0, 1) := by decide +kernel
theorem dX5_size_7 : decode cX5_size 7 = .ok (.iload_n 1, 1) := by decide +kernel
theorem dX5_size_8 : decode cX5_size 8 = .ok (.aload_n 2, 1) := by decide +kernel
theorem dX5_size_9 : decode cX5_size 9 = .ok (.invokespecial 23, 3) := by decide +kernel
theorem dX5_size_12 : decode cX5_size 12 = .ok (.ineg, 1) := by decide +kernel
theorem dX5_size_13 : decode cX5_size 13 = .ok (.ireturn, 1) := by decide +kernel
theorem dX5_mark_0 : decode cX5_mark 0 = .ok (.aload_n 2, 1) := by decide +kernel
theorem dX5_mark_1 : decode cX5_mark 1 = .ok (.bipush 24, 2) := by decide +kernel
theorem dX5_mark_3 : decode cX5_mark 3 = .ok (.invokevirtual 17, 3) := by decide +kernel
theorem dX5_mark_6 : decode cX5_mark 6 = .ok (.aload_n 0, 1) := by decide +kernel
theorem dX5_mark_7 : decode cX5_mark 7 = .ok (.iload_n 1, 1) := by decide +kernel
theorem dX5_mark_8 : decode cX5_mark 8 = .ok (.aload_n 2, 1) := by decide +kernel
theorem dX5_mark_9 : decode cX5_mark 9 = .ok (.invokespecial 27, 3) := by decide +kernel
theorem dX5_mark_12 : decode cX5_mark 12 = .ok (.iconst 2, 1) := by decide +kernel
theorem dX5_mark_13 : decode cX5_mark 13 = .ok (.imul, 1) := by decide +kernel
theorem dX5_mark_14 : decode cX5_mark 14 = .ok (.ireturn, 1) := by decide +kernel
theorem dX6_init_0 : decode cX6_init 0 = .ok (.aload_n 0, 1) := by decide +kernel
theorem dX6_init_1 : decode cX6_init 1 = .ok (.iload_n 1, 1) := by decide +kernel
theorem dX6_init_2 : decode cX6_init 2 = .ok (.aload_n 2, 1) := by decide +kernel
theorem dX6_init_3 : decode cX6_init 3 = .ok (.invokespecial 1, 3) := by decide +kernel
theorem dX6_init_6 : decode cX6_init 6 = .ok (.return_, 1) := by decide +kernel
theorem dX6_kindNumber_0 : decode cX6_kindNumber 0 = .ok (.iconst 5, 1) := by decide +kernel
theorem dX6_kindNumber_1 : decode cX6_kindNumber 1 = .ok (.ireturn, 1) := by decide +kernel
theorem dX6_clearedHaze_0 : decode cX6_clearedHaze 0 = .ok (.bipush 8, 2) := by decide +kernel
theorem dX6_clearedHaze_2 : decode cX6_clearedHaze 2 = .ok (.ireturn, 1) := by decide +kernel
theorem dX6_size_0 : decode cX6_size 0 = .ok (.aload_n 2, 1) := by decide +kernel
theorem dX6_size_1 : decode cX6_size 1 = .ok (.bipush 14, 2) := by decide +kernel
theorem dX6_size_3 : decode cX6_size 3 = .ok (.invokevirtual 7, 3) := by decide +kernel
theorem dX6_size_6 : decode cX6_size 6 = .ok (.aload_n 0, 1) := by decide +kernel
theorem dX6_size_7 : decode cX6_size 7 = .ok (.iload_n 1, 1) := by decide +kernel
theorem dX6_size_8 : decode cX6_size 8 = .ok (.aload_n 2, 1) := by decide +kernel
theorem dX6_size_9 : decode cX6_size 9 = .ok (.invokespecial 13, 3) := by decide +kernel
theorem dX6_size_12 : decode cX6_size 12 = .ok (.iconst 2, 1) := by decide +kernel
theorem dX6_size_13 : decode cX6_size 13 = .ok (.imul, 1) := by decide +kernel
theorem dX6_size_14 : decode cX6_size 14 = .ok (.ireturn, 1) := by decide +kernel
theorem dX7_init_0 : decode cX7_init 0 = .ok (.aload_n 0, 1) := by decide +kernel
theorem dX7_init_1 : decode cX7_init 1 = .ok (.invokespecial 3, 3) := by decide +kernel
theorem dX7_init_4 : decode cX7_init 4 = .ok (.aload_n 0, 1) := by decide +kernel
theorem dX7_init_5 : decode cX7_init 5 = .ok (.bipush 15, 2) := by decide +kernel
theorem dX7_init_7 : decode cX7_init 7 = .ok (.newarray .int, 2) := by decide +kernel
theorem dX7_init_9 : decode cX7_init 9 = .ok (.putfield 9, 3) := by decide +kernel
theorem dX7_init_12 : decode cX7_init 12 = .ok (.aload_n 0, 1) := by decide +kernel
theorem dX7_init_13 : decode cX7_init 13 = .ok (.bipush 15, 2) := by decide +kernel
theorem dX7_init_15 : decode cX7_init 15 = .ok (.newarray .int, 2) := by decide +kernel
theorem dX7_init_17 : decode cX7_init 17 = .ok (.putfield 15, 3) := by decide +kernel
theorem dX7_init_20 : decode cX7_init 20 = .ok (.aload_n 0, 1) := by decide +kernel
theorem dX7_init_21 : decode cX7_init 21 = .ok (.bipush 15, 2) := by decide +kernel
theorem dX7_init_23 : decode cX7_init 23 = .ok (.newarray .int, 2) := by decide +kernel
theorem dX7_init_25 : decode cX7_init 25 = .ok (.putfield 18, 3) := by decide +kernel
theorem dX7_init_28 : decode cX7_init 28 = .ok (.return_, 1) := by decide +kernel
theorem dX7_become_0 : decode cX7_become 0 = .ok (.aload_n 1, 1) := by decide +kernel
theorem dX7_become_1 : decode cX7_become 1 = .ok (.getfield 9, 3) := by decide +kernel
theorem dX7_become_4 : decode cX7_become 4 = .ok (.iconst 0, 1) := by decide +kernel
theorem dX7_become_5 : decode cX7_become 5 = .ok (.aload_n 0, 1) := by decide +kernel
theorem dX7_become_6 : decode cX7_become 6 = .ok (.getfield 9, 3) := by decide +kernel
theorem dX7_become_9 : decode cX7_become 9 = .ok (.iconst 0, 1) := by decide +kernel
theorem dX7_become_10 : decode cX7_become 10 = .ok (.bipush 15, 2) := by decide +kernel
theorem dX7_become_12 : decode cX7_become 12 = .ok (.invokestatic 21, 3) := by decide +kernel
theorem dX7_become_15 : decode cX7_become 15 = .ok (.aload_n 1, 1) := by decide +kernel
theorem dX7_become_16 : decode cX7_become 16 = .ok (.getfield 15, 3) := by decide +kernel
theorem dX7_become_19 : decode cX7_become 19 = .ok (.iconst 0, 1) := by decide +kernel
theorem dX7_become_20 : decode cX7_become 20 = .ok (.aload_n 0, 1) := by decide +kernel
theorem dX7_become_21 : decode cX7_become 21 = .ok (.getfield 15, 3) := by decide +kernel
theorem dX7_become_24 : decode cX7_become 24 = .ok (.iconst 0, 1) := by decide +kernel
theorem dX7_become_25 : decode cX7_become 25 = .ok (.bipush 15, 2) := by decide +kernel
theorem dX7_become_27 : decode cX7_become 27 = .ok (.invokestatic 21, 3) := by decide +kernel
theorem dX7_become_30 : decode cX7_become 30 = .ok (.aload_n 1, 1) := by decide +kernel
theorem dX7_become_31 : decode cX7_become 31 = .ok (.getfield 18, 3) := by decide +kernel
theorem dX7_become_34 : decode cX7_become 34 = .ok (.iconst 0, 1) := by decide +kernel
theorem dX7_become_35 : decode cX7_become 35 = .ok (.aload_n 0, 1) := by decide +kernel
theorem dX7_become_36 : decode cX7_become 36 = .ok (.getfield 18, 3) := by decide +kernel
theorem dX7_become_39 : decode cX7_become 39 = .ok (.iconst 0, 1) := by decide +kernel
theorem dX7_become_40 : decode cX7_become 40 = .ok (.bipush 15, 2) := by decide +kernel
theorem dX7_become_42 : decode cX7_become 42 = .ok (.invokestatic 21, 3) := by decide +kernel
theorem dX7_become_45 : decode cX7_become 45 = .ok (.aload_n 0, 1) := by decide +kernel
theorem dX7_become_46 : decode cX7_become 46 = .ok (.aload_n 1, 1) := by decide +kernel
theorem dX7_become_47 : decode cX7_become 47 = .ok (.getfield 27, 3) := by decide +kernel
theorem dX7_become_50 : decode cX7_become 50 = .ok (.putfield 27, 3) := by decide +kernel
theorem dX7_become_53 : decode cX7_become 53 = .ok (.aload_n 0, 1) := by decide +kernel
theorem dX7_become_54 : decode cX7_become 54 = .ok (.aload_n 1, 1) := by decide +kernel
theorem dX7_become_55 : decode cX7_become 55 = .ok (.getfield 31, 3) := by decide +kernel
theorem dX7_become_58 : decode cX7_become 58 = .ok (.putfield 31, 3) := by decide +kernel
theorem dX7_become_61 : decode cX7_become 61 = .ok (.aload_n 0, 1) := by decide +kernel
theorem dX7_become_62 : decode cX7_become 62 = .ok (.aload_n 1, 1) := by decide +kernel
theorem dX7_become_63 : decode cX7_become 63 = .ok (.getfield 34, 3) := by decide +kernel
theorem dX7_become_66 : decode cX7_become 66 = .ok (.putfield 34, 3) := by decide +kernel
theorem dX7_become_69 : decode cX7_become 69 = .ok (.return_, 1) := by decide +kernel
theorem dX7_wipe_0 : decode cX7_wipe 0 = .ok (.aload_n 0, 1) := by decide +kernel
theorem dX7_wipe_1 : decode cX7_wipe 1 = .ok (.getfield 9, 3) := by decide +kernel
theorem dX7_wipe_4 : decode cX7_wipe 4 = .ok (.iconst 0, 1) := by decide +kernel
theorem dX7_wipe_5 : decode cX7_wipe 5 = .ok (.invokestatic 37, 3) := by decide +kernel
theorem dX7_wipe_8 : decode cX7_wipe 8 = .ok (.aload_n 0, 1) := by decide +kernel
theorem dX7_wipe_9 : decode cX7_wipe 9 = .ok (.getfield 15, 3) := by decide +kernel
theorem dX7_wipe_12 : decode cX7_wipe 12 = .ok (.iconst 0, 1) := by decide +kernel
theorem dX7_wipe_13 : decode cX7_wipe 13 = .ok (.invokestatic 37, 3) := by decide +kernel
theorem dX7_wipe_16 : decode cX7_wipe 16 = .ok (.aload_n 0, 1) := by decide +kernel
theorem dX7_wipe_17 : decode cX7_wipe 17 = .ok (.getfield 18, 3) := by decide +kernel
theorem dX7_wipe_20 : decode cX7_wipe 20 = .ok (.iconst 0, 1) := by decide +kernel
theorem dX7_wipe_21 : decode cX7_wipe 21 = .ok (.invokestatic 37, 3) := by decide +kernel
theorem dX7_wipe_24 : decode cX7_wipe 24 = .ok (.aload_n 0, 1) := by decide +kernel
theorem dX7_wipe_25 : decode cX7_wipe 25 = .ok (.iconst 0, 1) := by decide +kernel
theorem dX7_wipe_26 : decode cX7_wipe 26 = .ok (.putfield 27, 3) := by decide +kernel
theorem dX7_wipe_29 : decode cX7_wipe 29 = .ok (.aload_n 0, 1) := by decide +kernel
theorem dX7_wipe_30 : decode cX7_wipe 30 = .ok (.iconst 0, 1) := by decide +kernel
theorem dX7_wipe_31 : decode cX7_wipe 31 = .ok (.putfield 31, 3) := by decide +kernel
theorem dX7_wipe_34 : decode cX7_wipe 34 = .ok (.aload_n 0, 1) := by decide +kernel
theorem dX7_wipe_35 : decode cX7_wipe 35 = .ok (.iconst 0, 1) := by decide +kernel
theorem dX7_wipe_36 : decode cX7_wipe 36 = .ok (.putfield 34, 3) := by decide +kernel
theorem dX7_wipe_39 : decode cX7_wipe 39 = .ok (.return_, 1) := by decide +kernel
theorem dX7_soakPad_0 : decode cX7_soakPad 0 = .ok (.iload_n 1, 1) := by decide +kernel
theorem dX7_soakPad_1 : decode cX7_soakPad 1 = .ok (.bipush 99, 2) := by decide +kernel
theorem dX7_soakPad_3 : decode cX7_soakPad 3 = .ok (.aload_n 0, 1) := by decide +kernel
theorem dX7_soakPad_4 : decode cX7_soakPad 4 = .ok (.getfield 27, 3) := by decide +kernel
theorem dX7_soakPad_7 : decode cX7_soakPad 7 = .ok (.isub, 1) := by decide +kernel
theorem dX7_soakPad_8 : decode cX7_soakPad 8 = .ok (.invokestatic 43, 3) := by decide +kernel
theorem dX7_soakPad_11 : decode cX7_soakPad 11 = .ok (.istore_n 3, 1) := by decide +kernel
theorem dX7_soakPad_12 : decode cX7_soakPad 12 = .ok (.aload_n 0, 1) := by decide +kernel
theorem dX7_soakPad_13 : decode cX7_soakPad 13 = .ok (.dup, 1) := by decide +kernel
theorem dX7_soakPad_14 : decode cX7_soakPad 14 = .ok (.getfield 27, 3) := by decide +kernel
theorem dX7_soakPad_17 : decode cX7_soakPad 17 = .ok (.iload_n 3, 1) := by decide +kernel
theorem dX7_soakPad_18 : decode cX7_soakPad 18 = .ok (.iadd, 1) := by decide +kernel
theorem dX7_soakPad_19 : decode cX7_soakPad 19 = .ok (.putfield 27, 3) := by decide +kernel
theorem dX7_soakPad_22 : decode cX7_soakPad 22 = .ok (.aload_n 0, 1) := by decide +kernel
theorem dX7_soakPad_23 : decode cX7_soakPad 23 = .ok (.dup, 1) := by decide +kernel
theorem dX7_soakPad_24 : decode cX7_soakPad 24 = .ok (.getfield 34, 3) := by decide +kernel
theorem dX7_soakPad_27 : decode cX7_soakPad 27 = .ok (.iload_n 3, 1) := by decide +kernel
theorem dX7_soakPad_28 : decode cX7_soakPad 28 = .ok (.iadd, 1) := by decide +kernel
theorem dX7_soakPad_29 : decode cX7_soakPad 29 = .ok (.putfield 34, 3) := by decide +kernel
theorem dX7_soakPad_32 : decode cX7_soakPad 32 = .ok (.aload_n 0, 1) := by decide +kernel
theorem dX7_soakPad_33 : decode cX7_soakPad 33 = .ok (.aload_n 0, 1) := by decide +kernel
theorem dX7_soakPad_34 : decode cX7_soakPad 34 = .ok (.getfield 31, 3) := by decide +kernel
theorem dX7_soakPad_37 : decode cX7_soakPad 37 = .ok (.iload_n 2, 1) := by decide +kernel
theorem dX7_soakPad_38 : decode cX7_soakPad 38 = .ok (.iadd, 1) := by decide +kernel
theorem dX7_soakPad_39 : decode cX7_soakPad 39 = .ok (.bipush 99, 2) := by decide +kernel
theorem dX7_soakPad_41 : decode cX7_soakPad 41 = .ok (.invokestatic 43, 3) := by decide +kernel
theorem dX7_soakPad_44 : decode cX7_soakPad 44 = .ok (.putfield 31, 3) := by decide +kernel
theorem dX7_soakPad_47 : decode cX7_soakPad 47 = .ok (.return_, 1) := by decide +kernel
theorem dX7_dryPad_0 : decode cX7_dryPad 0 = .ok (.aload_n 0, 1) := by decide +kernel
theorem dX7_dryPad_1 : decode cX7_dryPad 1 = .ok (.aload_n 0, 1) := by decide +kernel
theorem dX7_dryPad_2 : decode cX7_dryPad 2 = .ok (.getfield 27, 3) := by decide +kernel
theorem dX7_dryPad_5 : decode cX7_dryPad 5 = .ok (.iconst 1, 1) := by decide +kernel
theorem dX7_dryPad_6 : decode cX7_dryPad 6 = .ok (.isub, 1) := by decide +kernel
theorem dX7_dryPad_7 : decode cX7_dryPad 7 = .ok (.iconst 0, 1) := by decide +kernel
theorem dX7_dryPad_8 : decode cX7_dryPad 8 = .ok (.invokestatic 49, 3) := by decide +kernel
theorem dX7_dryPad_11 : decode cX7_dryPad 11 = .ok (.putfield 27, 3) := by decide +kernel
theorem dX7_dryPad_14 : decode cX7_dryPad 14 = .ok (.return_, 1) := by decide +kernel
theorem dX7_layFilm_0 : decode cX7_layFilm 0 = .ok (.iload_n 2, 1) := by decide +kernel
theorem dX7_layFilm_1 : decode cX7_layFilm 1 = .ok (.sipush 999, 3) := by decide +kernel
theorem dX7_layFilm_4 : decode cX7_layFilm 4 = .ok (.aload_n 0, 1) := by decide +kernel
theorem dX7_layFilm_5 : decode cX7_layFilm 5 = .ok (.getfield 9, 3) := by decide +kernel
theorem dX7_layFilm_8 : decode cX7_layFilm 8 = .ok (.iload_n 1, 1) := by decide +kernel
theorem dX7_layFilm_9 : decode cX7_layFilm 9 = .ok (.iaload, 1) := by decide +kernel
theorem dX7_layFilm_10 : decode cX7_layFilm 10 = .ok (.isub, 1) := by decide +kernel
theorem dX7_layFilm_11 : decode cX7_layFilm 11 = .ok (.invokestatic 43, 3) := by decide +kernel
theorem dX7_layFilm_14 : decode cX7_layFilm 14 = .ok (.istore_n 3, 1) := by decide +kernel
theorem dX7_layFilm_15 : decode cX7_layFilm 15 = .ok (.aload_n 0, 1) := by decide +kernel
theorem dX7_layFilm_16 : decode cX7_layFilm 16 = .ok (.getfield 9, 3) := by decide +kernel
theorem dX7_layFilm_19 : decode cX7_layFilm 19 = .ok (.iload_n 1, 1) := by decide +kernel
theorem dX7_layFilm_20 : decode cX7_layFilm 20 = .ok (.dup2, 1) := by decide +kernel
theorem dX7_layFilm_21 : decode cX7_layFilm 21 = .ok (.iaload, 1) := by decide +kernel
theorem dX7_layFilm_22 : decode cX7_layFilm 22 = .ok (.iload_n 3, 1) := by decide +kernel
theorem dX7_layFilm_23 : decode cX7_layFilm 23 = .ok (.iadd, 1) := by decide +kernel
theorem dX7_layFilm_24 : decode cX7_layFilm 24 = .ok (.iastore, 1) := by decide +kernel
theorem dX7_layFilm_25 : decode cX7_layFilm 25 = .ok (.aload_n 0, 1) := by decide +kernel
theorem dX7_layFilm_26 : decode cX7_layFilm 26 = .ok (.getfield 15, 3) := by decide +kernel
theorem dX7_layFilm_29 : decode cX7_layFilm 29 = .ok (.iload_n 1, 1) := by decide +kernel
theorem dX7_layFilm_30 : decode cX7_layFilm 30 = .ok (.dup2, 1) := by decide +kernel
theorem dX7_layFilm_31 : decode cX7_layFilm 31 = .ok (.iaload, 1) := by decide +kernel
theorem dX7_layFilm_32 : decode cX7_layFilm 32 = .ok (.iload_n 3, 1) := by decide +kernel
theorem dX7_layFilm_33 : decode cX7_layFilm 33 = .ok (.iadd, 1) := by decide +kernel
theorem dX7_layFilm_34 : decode cX7_layFilm 34 = .ok (.iastore, 1) := by decide +kernel
theorem dX7_layFilm_35 : decode cX7_layFilm 35 = .ok (.return_, 1) := by decide +kernel
theorem dX7_layHaze_0 : decode cX7_layHaze 0 = .ok (.aload_n 0, 1) := by decide +kernel
theorem dX7_layHaze_1 : decode cX7_layHaze 1 = .ok (.getfield 18, 3) := by decide +kernel
theorem dX7_layHaze_4 : decode cX7_layHaze 4 = .ok (.iload_n 1, 1) := by decide +kernel
theorem dX7_layHaze_5 : decode cX7_layHaze 5 = .ok (.aload_n 0, 1) := by decide +kernel
theorem dX7_layHaze_6 : decode cX7_layHaze 6 = .ok (.getfield 18, 3) := by decide +kernel
theorem dX7_layHaze_9 : decode cX7_layHaze 9 = .ok (.iload_n 1, 1) := by decide +kernel
theorem dX7_layHaze_10 : decode cX7_layHaze 10 = .ok (.iaload, 1) := by decide +kernel
theorem dX7_layHaze_11 : decode cX7_layHaze 11 = .ok (.aload_n 0, 1) := by decide +kernel
theorem dX7_layHaze_12 : decode cX7_layHaze 12 = .ok (.getfield 31, 3) := by decide +kernel
theorem dX7_layHaze_15 : decode cX7_layHaze 15 = .ok (.iconst 4, 1) := by decide +kernel
theorem dX7_layHaze_16 : decode cX7_layHaze 16 = .ok (.idiv, 1) := by decide +kernel
theorem dX7_layHaze_17 : decode cX7_layHaze 17 = .ok (.iadd, 1) := by decide +kernel
theorem dX7_layHaze_18 : decode cX7_layHaze 18 = .ok (.bipush 99, 2) := by decide +kernel
theorem dX7_layHaze_20 : decode cX7_layHaze 20 = .ok (.invokestatic 43, 3) := by decide +kernel
theorem dX7_layHaze_23 : decode cX7_layHaze 23 = .ok (.iastore, 1) := by decide +kernel
theorem dX7_layHaze_24 : decode cX7_layHaze 24 = .ok (.return_, 1) := by decide +kernel
theorem dX7_takeHaze_0 : decode cX7_takeHaze 0 = .ok (.aload_n 0, 1) := by decide +kernel
theorem dX7_takeHaze_1 : decode cX7_takeHaze 1 = .ok (.getfield 18, 3) := by decide +kernel
theorem dX7_takeHaze_4 : decode cX7_takeHaze 4 = .ok (.iload_n 1, 1) := by decide +kernel
theorem dX7_takeHaze_5 : decode cX7_takeHaze 5 = .ok (.aload_n 0, 1) := by decide +kernel
theorem dX7_takeHaze_6 : decode cX7_takeHaze 6 = .ok (.getfield 18, 3) := by decide +kernel
theorem dX7_takeHaze_9 : decode cX7_takeHaze 9 = .ok (.iload_n 1, 1) := by decide +kernel
theorem dX7_takeHaze_10 : decode cX7_takeHaze 10 = .ok (.iaload, 1) := by decide +kernel
theorem dX7_takeHaze_11 : decode cX7_takeHaze 11 = .ok (.iload_n 2, 1) := by decide +kernel
theorem dX7_takeHaze_12 : decode cX7_takeHaze 12 = .ok (.isub, 1) := by decide +kernel
theorem dX7_takeHaze_13 : decode cX7_takeHaze 13 = .ok (.iconst 0, 1) := by decide +kernel
theorem dX7_takeHaze_14 : decode cX7_takeHaze 14 = .ok (.invokestatic 49, 3) := by decide +kernel
theorem dX7_takeHaze_17 : decode cX7_takeHaze 17 = .ok (.iastore, 1) := by decide +kernel
theorem dX7_takeHaze_18 : decode cX7_takeHaze 18 = .ok (.return_, 1) := by decide +kernel
theorem dX7_takeSoft_0 : decode cX7_takeSoft 0 = .ok (.aload_n 0, 1) := by decide +kernel
theorem dX7_takeSoft_1 : decode cX7_takeSoft 1 = .ok (.getfield 9, 3) := by decide +kernel
theorem dX7_takeSoft_4 : decode cX7_takeSoft 4 = .ok (.iload_n 1, 1) := by decide +kernel
theorem dX7_takeSoft_5 : decode cX7_takeSoft 5 = .ok (.dup2, 1) := by decide +kernel
theorem dX7_takeSoft_6 : decode cX7_takeSoft 6 = .ok (.iaload, 1) := by decide +kernel
theorem dX7_takeSoft_7 : decode cX7_takeSoft 7 = .ok (.iload_n 2, 1) := by decide +kernel
theorem dX7_takeSoft_8 : decode cX7_takeSoft 8 = .ok (.isub, 1) := by decide +kernel
theorem dX7_takeSoft_9 : decode cX7_takeSoft 9 = .ok (.iastore, 1) := by decide +kernel
theorem dX7_takeSoft_10 : decode cX7_takeSoft 10 = .ok (.aload_n 0, 1) := by decide +kernel
theorem dX7_takeSoft_11 : decode cX7_takeSoft 11 = .ok (.getfield 15, 3) := by decide +kernel
theorem dX7_takeSoft_14 : decode cX7_takeSoft 14 = .ok (.iload_n 1, 1) := by decide +kernel
theorem dX7_takeSoft_15 : decode cX7_takeSoft 15 = .ok (.dup2, 1) := by decide +kernel
theorem dX7_takeSoft_16 : decode cX7_takeSoft 16 = .ok (.iaload, 1) := by decide +kernel
theorem dX7_takeSoft_17 : decode cX7_takeSoft 17 = .ok (.iload_n 2, 1) := by decide +kernel
theorem dX7_takeSoft_18 : decode cX7_takeSoft 18 = .ok (.isub, 1) := by decide +kernel
theorem dX7_takeSoft_19 : decode cX7_takeSoft 19 = .ok (.iastore, 1) := by decide +kernel
theorem dX7_takeSoft_20 : decode cX7_takeSoft 20 = .ok (.return_, 1) := by decide +kernel
theorem dX7_scratch_0 : decode cX7_scratch 0 = .ok (.aload_n 0, 1) := by decide +kernel
theorem dX7_scratch_1 : decode cX7_scratch 1 = .ok (.getfield 9, 3) := by decide +kernel
theorem dX7_scratch_4 : decode cX7_scratch 4 = .ok (.iload_n 1, 1) := by decide +kernel
theorem dX7_scratch_5 : decode cX7_scratch 5 = .ok (.aload_n 0, 1) := by decide +kernel
theorem dX7_scratch_6 : decode cX7_scratch 6 = .ok (.getfield 9, 3) := by decide +kernel
theorem dX7_scratch_9 : decode cX7_scratch 9 = .ok (.iload_n 1, 1) := by decide +kernel
theorem dX7_scratch_10 : decode cX7_scratch 10 = .ok (.iaload, 1) := by decide +kernel
theorem dX7_scratch_11 : decode cX7_scratch 11 = .ok (.iconst 2, 1) := by decide +kernel
theorem dX7_scratch_12 : decode cX7_scratch 12 = .ok (.isub, 1) := by decide +kernel
theorem dX7_scratch_13 : decode cX7_scratch 13 = .ok (.iconst 0, 1) := by decide +kernel
theorem dX7_scratch_14 : decode cX7_scratch 14 = .ok (.invokestatic 49, 3) := by decide +kernel
theorem dX7_scratch_17 : decode cX7_scratch 17 = .ok (.iastore, 1) := by decide +kernel
theorem dX7_scratch_18 : decode cX7_scratch 18 = .ok (.aload_n 0, 1) := by decide +kernel
theorem dX7_scratch_19 : decode cX7_scratch 19 = .ok (.getfield 15, 3) := by decide +kernel
theorem dX7_scratch_22 : decode cX7_scratch 22 = .ok (.iload_n 1, 1) := by decide +kernel
theorem dX7_scratch_23 : decode cX7_scratch 23 = .ok (.aload_n 0, 1) := by decide +kernel
theorem dX7_scratch_24 : decode cX7_scratch 24 = .ok (.getfield 15, 3) := by decide +kernel
theorem dX7_scratch_27 : decode cX7_scratch 27 = .ok (.iload_n 1, 1) := by decide +kernel
theorem dX7_scratch_28 : decode cX7_scratch 28 = .ok (.iaload, 1) := by decide +kernel
theorem dX7_scratch_29 : decode cX7_scratch 29 = .ok (.aload_n 0, 1) := by decide +kernel
theorem dX7_scratch_30 : decode cX7_scratch 30 = .ok (.getfield 9, 3) := by decide +kernel
theorem dX7_scratch_33 : decode cX7_scratch 33 = .ok (.iload_n 1, 1) := by decide +kernel
theorem dX7_scratch_34 : decode cX7_scratch 34 = .ok (.iaload, 1) := by decide +kernel
theorem dX7_scratch_35 : decode cX7_scratch 35 = .ok (.invokestatic 43, 3) := by decide +kernel
theorem dX7_scratch_38 : decode cX7_scratch 38 = .ok (.iastore, 1) := by decide +kernel
theorem dX7_scratch_39 : decode cX7_scratch 39 = .ok (.return_, 1) := by decide +kernel
theorem dX7_tearAt_0 : decode cX7_tearAt 0 = .ok (.aload_n 0, 1) := by decide +kernel
theorem dX7_tearAt_1 : decode cX7_tearAt 1 = .ok (.getfield 9, 3) := by decide +kernel
theorem dX7_tearAt_4 : decode cX7_tearAt 4 = .ok (.iload_n 1, 1) := by decide +kernel
theorem dX7_tearAt_5 : decode cX7_tearAt 5 = .ok (.aload_n 0, 1) := by decide +kernel
theorem dX7_tearAt_6 : decode cX7_tearAt 6 = .ok (.getfield 9, 3) := by decide +kernel
theorem dX7_tearAt_9 : decode cX7_tearAt 9 = .ok (.iload_n 1, 1) := by decide +kernel
theorem dX7_tearAt_10 : decode cX7_tearAt 10 = .ok (.iaload, 1) := by decide +kernel
theorem dX7_tearAt_11 : decode cX7_tearAt 11 = .ok (.bipush 10, 2) := by decide +kernel
theorem dX7_tearAt_13 : decode cX7_tearAt 13 = .ok (.isub, 1) := by decide +kernel
theorem dX7_tearAt_14 : decode cX7_tearAt 14 = .ok (.iconst 0, 1) := by decide +kernel
theorem dX7_tearAt_15 : decode cX7_tearAt 15 = .ok (.invokestatic 49, 3) := by decide +kernel
theorem dX7_tearAt_18 : decode cX7_tearAt 18 = .ok (.iastore, 1) := by decide +kernel
theorem dX7_tearAt_19 : decode cX7_tearAt 19 = .ok (.aload_n 0, 1) := by decide +kernel
theorem dX7_tearAt_20 : decode cX7_tearAt 20 = .ok (.getfield 15, 3) := by decide +kernel
theorem dX7_tearAt_23 : decode cX7_tearAt 23 = .ok (.iload_n 1, 1) := by decide +kernel
theorem dX7_tearAt_24 : decode cX7_tearAt 24 = .ok (.iconst 0, 1) := by decide +kernel
theorem dX7_tearAt_25 : decode cX7_tearAt 25 = .ok (.iastore, 1) := by decide +kernel
theorem dX7_tearAt_26 : decode cX7_tearAt 26 = .ok (.return_, 1) := by decide +kernel
theorem dX7_sinkBy_0 : decode cX7_sinkBy 0 = .ok (.iconst 0, 1) := by decide +kernel
theorem dX7_sinkBy_1 : decode cX7_sinkBy 1 = .ok (.istore_n 2, 1) := by decide +kernel
theorem dX7_sinkBy_2 : decode cX7_sinkBy 2 = .ok (.iload_n 2, 1) := by decide +kernel
theorem dX7_sinkBy_3 : decode cX7_sinkBy 3 = .ok (.bipush 15, 2) := by decide +kernel
theorem dX7_sinkBy_5 : decode cX7_sinkBy 5 = .ok (.if_icmp .ge 40, 3) := by decide +kernel
theorem dX7_sinkBy_8 : decode cX7_sinkBy 8 = .ok (.aload_n 0, 1) := by decide +kernel
theorem dX7_sinkBy_9 : decode cX7_sinkBy 9 = .ok (.getfield 9, 3) := by decide +kernel
theorem dX7_sinkBy_12 : decode cX7_sinkBy 12 = .ok (.iload_n 2, 1) := by decide +kernel
theorem dX7_sinkBy_13 : decode cX7_sinkBy 13 = .ok (.aload_n 0, 1) := by decide +kernel
theorem dX7_sinkBy_14 : decode cX7_sinkBy 14 = .ok (.getfield 9, 3) := by decide +kernel
theorem dX7_sinkBy_17 : decode cX7_sinkBy 17 = .ok (.iload_n 2, 1) := by decide +kernel
theorem dX7_sinkBy_18 : decode cX7_sinkBy 18 = .ok (.iaload, 1) := by decide +kernel
theorem dX7_sinkBy_19 : decode cX7_sinkBy 19 = .ok (.iload_n 1, 1) := by decide +kernel
theorem dX7_sinkBy_20 : decode cX7_sinkBy 20 = .ok (.isub, 1) := by decide +kernel
theorem dX7_sinkBy_21 : decode cX7_sinkBy 21 = .ok (.iconst 0, 1) := by decide +kernel
theorem dX7_sinkBy_22 : decode cX7_sinkBy 22 = .ok (.invokestatic 49, 3) := by decide +kernel
theorem dX7_sinkBy_25 : decode cX7_sinkBy 25 = .ok (.iastore, 1) := by decide +kernel
theorem dX7_sinkBy_26 : decode cX7_sinkBy 26 = .ok (.aload_n 0, 1) := by decide +kernel
theorem dX7_sinkBy_27 : decode cX7_sinkBy 27 = .ok (.getfield 15, 3) := by decide +kernel
theorem dX7_sinkBy_30 : decode cX7_sinkBy 30 = .ok (.iload_n 2, 1) := by decide +kernel
theorem dX7_sinkBy_31 : decode cX7_sinkBy 31 = .ok (.iconst 0, 1) := by decide +kernel
theorem dX7_sinkBy_32 : decode cX7_sinkBy 32 = .ok (.iastore, 1) := by decide +kernel
theorem dX7_sinkBy_33 : decode cX7_sinkBy 33 = .ok (.aload_n 0, 1) := by decide +kernel
theorem dX7_sinkBy_34 : decode cX7_sinkBy 34 = .ok (.iload_n 2, 1) := by decide +kernel
theorem dX7_sinkBy_35 : decode cX7_sinkBy 35 = .ok (.iconst 1, 1) := by decide +kernel
theorem dX7_sinkBy_36 : decode cX7_sinkBy 36 = .ok (.invokevirtual 52, 3) := by decide +kernel
theorem dX7_sinkBy_39 : decode cX7_sinkBy 39 = .ok (.iinc 2 1, 3) := by decide +kernel
theorem dX7_sinkBy_42 : decode cX7_sinkBy 42 = .ok (.goto (-40), 3) := by decide +kernel
theorem dX7_sinkBy_45 : decode cX7_sinkBy 45 = .ok (.return_, 1) := by decide +kernel
theorem dX7_allFilm_0 : decode cX7_allFilm 0 = .ok (.iconst 0, 1) := by decide +kernel
theorem dX7_allFilm_1 : decode cX7_allFilm 1 = .ok (.istore_n 1, 1) := by decide +kernel
theorem dX7_allFilm_2 : decode cX7_allFilm 2 = .ok (.aload_n 0, 1) := by decide +kernel
theorem dX7_allFilm_3 : decode cX7_allFilm 3 = .ok (.getfield 9, 3) := by decide +kernel
theorem dX7_allFilm_6 : decode cX7_allFilm 6 = .ok (.astore_n 2, 1) := by decide +kernel
theorem dX7_allFilm_7 : decode cX7_allFilm 7 = .ok (.aload_n 2, 1) := by decide +kernel
theorem dX7_allFilm_8 : decode cX7_allFilm 8 = .ok (.arraylength, 1) := by decide +kernel
theorem dX7_allFilm_9 : decode cX7_allFilm 9 = .ok (.istore_n 3, 1) := by decide +kernel
theorem dX7_allFilm_10 : decode cX7_allFilm 10 = .ok (.iconst 0, 1) := by decide +kernel
theorem dX7_allFilm_11 : decode cX7_allFilm 11 = .ok (.istore 4, 2) := by decide +kernel
theorem dX7_allFilm_13 : decode cX7_allFilm 13 = .ok (.iload 4, 2) := by decide +kernel
theorem dX7_allFilm_15 : decode cX7_allFilm 15 = .ok (.iload_n 3, 1) := by decide +kernel
theorem dX7_allFilm_16 : decode cX7_allFilm 16 = .ok (.if_icmp .ge 20, 3) := by decide +kernel
theorem dX7_allFilm_19 : decode cX7_allFilm 19 = .ok (.aload_n 2, 1) := by decide +kernel
theorem dX7_allFilm_20 : decode cX7_allFilm 20 = .ok (.iload 4, 2) := by decide +kernel
theorem dX7_allFilm_22 : decode cX7_allFilm 22 = .ok (.iaload, 1) := by decide +kernel
theorem dX7_allFilm_23 : decode cX7_allFilm 23 = .ok (.istore 5, 2) := by decide +kernel
theorem dX7_allFilm_25 : decode cX7_allFilm 25 = .ok (.iload_n 1, 1) := by decide +kernel
theorem dX7_allFilm_26 : decode cX7_allFilm 26 = .ok (.iload 5, 2) := by decide +kernel
theorem dX7_allFilm_28 : decode cX7_allFilm 28 = .ok (.iadd, 1) := by decide +kernel
theorem dX7_allFilm_29 : decode cX7_allFilm 29 = .ok (.istore_n 1, 1) := by decide +kernel
theorem dX7_allFilm_30 : decode cX7_allFilm 30 = .ok (.iinc 4 1, 3) := by decide +kernel
theorem dX7_allFilm_33 : decode cX7_allFilm 33 = .ok (.goto (-20), 3) := by decide +kernel
theorem dX7_allFilm_36 : decode cX7_allFilm 36 = .ok (.iload_n 1, 1) := by decide +kernel
theorem dX7_allFilm_37 : decode cX7_allFilm 37 = .ok (.ireturn, 1) := by decide +kernel
theorem dX7_thinnest_0 : decode cX7_thinnest 0 = .ok (.sipush 999, 3) := by decide +kernel
theorem dX7_thinnest_3 : decode cX7_thinnest 3 = .ok (.istore_n 1, 1) := by decide +kernel
theorem dX7_thinnest_4 : decode cX7_thinnest 4 = .ok (.aload_n 0, 1) := by decide +kernel
theorem dX7_thinnest_5 : decode cX7_thinnest 5 = .ok (.getfield 9, 3) := by decide +kernel
theorem dX7_thinnest_8 : decode cX7_thinnest 8 = .ok (.astore_n 2, 1) := by decide +kernel
theorem dX7_thinnest_9 : decode cX7_thinnest 9 = .ok (.aload_n 2, 1) := by decide +kernel
theorem dX7_thinnest_10 : decode cX7_thinnest 10 = .ok (.arraylength, 1) := by decide +kernel
theorem dX7_thinnest_11 : decode cX7_thinnest 11 = .ok (.istore_n 3, 1) := by decide +kernel
theorem dX7_thinnest_12 : decode cX7_thinnest 12 = .ok (.iconst 0, 1) := by decide +kernel
theorem dX7_thinnest_13 : decode cX7_thinnest 13 = .ok (.istore 4, 2) := by decide +kernel
theorem dX7_thinnest_15 : decode cX7_thinnest 15 = .ok (.iload 4, 2) := by decide +kernel
theorem dX7_thinnest_17 : decode cX7_thinnest 17 = .ok (.iload_n 3, 1) := by decide +kernel
theorem dX7_thinnest_18 : decode cX7_thinnest 18 = .ok (.if_icmp .ge 22, 3) := by decide +kernel
theorem dX7_thinnest_21 : decode cX7_thinnest 21 = .ok (.aload_n 2, 1) := by decide +kernel
theorem dX7_thinnest_22 : decode cX7_thinnest 22 = .ok (.iload 4, 2) := by decide +kernel
theorem dX7_thinnest_24 : decode cX7_thinnest 24 = .ok (.iaload, 1) := by decide +kernel
theorem dX7_thinnest_25 : decode cX7_thinnest 25 = .ok (.istore 5, 2) := by decide +kernel
theorem dX7_thinnest_27 : decode cX7_thinnest 27 = .ok (.iload_n 1, 1) := by decide +kernel
theorem dX7_thinnest_28 : decode cX7_thinnest 28 = .ok (.iload 5, 2) := by decide +kernel
theorem dX7_thinnest_30 : decode cX7_thinnest 30 = .ok (.invokestatic 43, 3) := by decide +kernel
theorem dX7_thinnest_33 : decode cX7_thinnest 33 = .ok (.istore_n 1, 1) := by decide +kernel
theorem dX7_thinnest_34 : decode cX7_thinnest 34 = .ok (.iinc 4 1, 3) := by decide +kernel
theorem dX7_thinnest_37 : decode cX7_thinnest 37 = .ok (.goto (-22), 3) := by decide +kernel
theorem dX7_thinnest_40 : decode cX7_thinnest 40 = .ok (.iload_n 1, 1) := by decide +kernel
theorem dX7_thinnest_41 : decode cX7_thinnest 41 = .ok (.ireturn, 1) := by decide +kernel
theorem dX7_unevenness_0 : decode cX7_unevenness 0 = .ok (.iconst 0, 1) := by decide +kernel
theorem dX7_unevenness_1 : decode cX7_unevenness 1 = .ok (.istore_n 1, 1) := by decide +kernel
theorem dX7_unevenness_2 : decode cX7_unevenness 2 = .ok (.aload_n 0, 1) := by decide +kernel
theorem dX7_unevenness_3 : decode cX7_unevenness 3 = .ok (.getfield 9, 3) := by decide +kernel
theorem dX7_unevenness_6 : decode cX7_unevenness 6 = .ok (.astore_n 2, 1) := by decide +kernel
theorem dX7_unevenness_7 : decode cX7_unevenness 7 = .ok (.aload_n 2, 1) := by decide +kernel
theorem dX7_unevenness_8 : decode cX7_unevenness 8 = .ok (.arraylength, 1) := by decide +kernel
theorem dX7_unevenness_9 : decode cX7_unevenness 9 = .ok (.istore_n 3, 1) := by decide +kernel
theorem dX7_unevenness_10 : decode cX7_unevenness 10 = .ok (.iconst 0, 1) := by decide +kernel
theorem dX7_unevenness_11 : decode cX7_unevenness 11 = .ok (.istore 4, 2) := by decide +kernel
theorem dX7_unevenness_13 : decode cX7_unevenness 13 = .ok (.iload 4, 2) := by decide +kernel
theorem dX7_unevenness_15 : decode cX7_unevenness 15 = .ok (.iload_n 3, 1) := by decide +kernel
theorem dX7_unevenness_16 : decode cX7_unevenness 16 = .ok (.if_icmp .ge 22, 3) := by decide +kernel
theorem dX7_unevenness_19 : decode cX7_unevenness 19 = .ok (.aload_n 2, 1) := by decide +kernel
theorem dX7_unevenness_20 : decode cX7_unevenness 20 = .ok (.iload 4, 2) := by decide +kernel
theorem dX7_unevenness_22 : decode cX7_unevenness 22 = .ok (.iaload, 1) := by decide +kernel
theorem dX7_unevenness_23 : decode cX7_unevenness 23 = .ok (.istore 5, 2) := by decide +kernel
theorem dX7_unevenness_25 : decode cX7_unevenness 25 = .ok (.iload_n 1, 1) := by decide +kernel
theorem dX7_unevenness_26 : decode cX7_unevenness 26 = .ok (.iload 5, 2) := by decide +kernel
theorem dX7_unevenness_28 : decode cX7_unevenness 28 = .ok (.invokestatic 49, 3) := by decide +kernel
theorem dX7_unevenness_31 : decode cX7_unevenness 31 = .ok (.istore_n 1, 1) := by decide +kernel
theorem dX7_unevenness_32 : decode cX7_unevenness 32 = .ok (.iinc 4 1, 3) := by decide +kernel
theorem dX7_unevenness_35 : decode cX7_unevenness 35 = .ok (.goto (-22), 3) := by decide +kernel
theorem dX7_unevenness_38 : decode cX7_unevenness 38 = .ok (.iload_n 1, 1) := by decide +kernel
theorem dX7_unevenness_39 : decode cX7_unevenness 39 = .ok (.aload_n 0, 1) := by decide +kernel
theorem dX7_unevenness_40 : decode cX7_unevenness 40 = .ok (.invokevirtual 56, 3) := by decide +kernel
theorem dX7_unevenness_43 : decode cX7_unevenness 43 = .ok (.isub, 1) := by decide +kernel
theorem dX7_unevenness_44 : decode cX7_unevenness 44 = .ok (.ireturn, 1) := by decide +kernel
theorem dX7_thinnestCells_0 : decode cX7_thinnestCells 0 = .ok (.aload_n 0, 1) := by decide +kernel
theorem dX7_thinnestCells_1 : decode cX7_thinnestCells 1 = .ok (.invokevirtual 56, 3) := by decide +kernel
theorem dX7_thinnestCells_4 : decode cX7_thinnestCells 4 = .ok (.istore_n 1, 1) := by decide +kernel
theorem dX7_thinnestCells_5 : decode cX7_thinnestCells 5 = .ok (.iconst 0, 1) := by decide +kernel
theorem dX7_thinnestCells_6 : decode cX7_thinnestCells 6 = .ok (.istore_n 2, 1) := by decide +kernel
theorem dX7_thinnestCells_7 : decode cX7_thinnestCells 7 = .ok (.iconst 0, 1) := by decide +kernel
theorem dX7_thinnestCells_8 : decode cX7_thinnestCells 8 = .ok (.istore_n 3, 1) := by decide +kernel
theorem dX7_thinnestCells_9 : decode cX7_thinnestCells 9 = .ok (.iload_n 3, 1) := by decide +kernel
theorem dX7_thinnestCells_10 : decode cX7_thinnestCells 10 = .ok (.bipush 15, 2) := by decide +kernel
theorem dX7_thinnestCells_12 : decode cX7_thinnestCells 12 = .ok (.if_icmp .ge 25, 3) := by decide +kernel
theorem dX7_thinnestCells_15 : decode cX7_thinnestCells 15 = .ok (.aload_n 0, 1) := by decide +kernel
theorem dX7_thinnestCells_16 : decode cX7_thinnestCells 16 = .ok (.getfield 9, 3) := by decide +kernel
theorem dX7_thinnestCells_19 : decode cX7_thinnestCells 19 = .ok (.iload_n 3, 1) := by decide +kernel
theorem dX7_thinnestCells_20 : decode cX7_thinnestCells 20 = .ok (.iaload, 1) := by decide +kernel
theorem dX7_thinnestCells_21 : decode cX7_thinnestCells 21 = .ok (.iload_n 1, 1) := by decide +kernel
theorem dX7_thinnestCells_22 : decode cX7_thinnestCells 22 = .ok (.if_icmp .ne 9, 3) := by decide +kernel
theorem dX7_thinnestCells_25 : decode cX7_thinnestCells 25 = .ok (.iload_n 2, 1) := by decide +kernel
theorem dX7_thinnestCells_26 : decode cX7_thinnestCells 26 = .ok (.iconst 1, 1) := by decide +kernel
theorem dX7_thinnestCells_27 : decode cX7_thinnestCells 27 = .ok (.iload_n 3, 1) := by decide +kernel
theorem dX7_thinnestCells_28 : decode cX7_thinnestCells 28 = .ok (.ishl, 1) := by decide +kernel
theorem dX7_thinnestCells_29 : decode cX7_thinnestCells 29 = .ok (.ior, 1) := by decide +kernel
theorem dX7_thinnestCells_30 : decode cX7_thinnestCells 30 = .ok (.istore_n 2, 1) := by decide +kernel
theorem dX7_thinnestCells_31 : decode cX7_thinnestCells 31 = .ok (.iinc 3 1, 3) := by decide +kernel
theorem dX7_thinnestCells_34 : decode cX7_thinnestCells 34 = .ok (.goto (-25), 3) := by decide +kernel
theorem dX7_thinnestCells_37 : decode cX7_thinnestCells 37 = .ok (.iload_n 2, 1) := by decide +kernel
theorem dX7_thinnestCells_38 : decode cX7_thinnestCells 38 = .ok (.ireturn, 1) := by decide +kernel
theorem dX7_lackTo_0 : decode cX7_lackTo 0 = .ok (.iconst 0, 1) := by decide +kernel
theorem dX7_lackTo_1 : decode cX7_lackTo 1 = .ok (.istore_n 3, 1) := by decide +kernel
theorem dX7_lackTo_2 : decode cX7_lackTo 2 = .ok (.iconst 0, 1) := by decide +kernel
theorem dX7_lackTo_3 : decode cX7_lackTo 3 = .ok (.istore 4, 2) := by decide +kernel
theorem dX7_lackTo_5 : decode cX7_lackTo 5 = .ok (.iload 4, 2) := by decide +kernel
theorem dX7_lackTo_7 : decode cX7_lackTo 7 = .ok (.bipush 15, 2) := by decide +kernel
theorem dX7_lackTo_9 : decode cX7_lackTo 9 = .ok (.if_icmp .ge 35, 3) := by decide +kernel
theorem dX7_lackTo_12 : decode cX7_lackTo 12 = .ok (.iload_n 2, 1) := by decide +kernel
theorem dX7_lackTo_13 : decode cX7_lackTo 13 = .ok (.iload 4, 2) := by decide +kernel
theorem dX7_lackTo_15 : decode cX7_lackTo 15 = .ok (.ishr, 1) := by decide +kernel
theorem dX7_lackTo_16 : decode cX7_lackTo 16 = .ok (.iconst 1, 1) := by decide +kernel
theorem dX7_lackTo_17 : decode cX7_lackTo 17 = .ok (.iand, 1) := by decide +kernel
theorem dX7_lackTo_18 : decode cX7_lackTo 18 = .ok (.iconst 1, 1) := by decide +kernel
theorem dX7_lackTo_19 : decode cX7_lackTo 19 = .ok (.if_icmp .ne 19, 3) := by decide +kernel
theorem dX7_lackTo_22 : decode cX7_lackTo 22 = .ok (.iload_n 3, 1) := by decide +kernel
theorem dX7_lackTo_23 : decode cX7_lackTo 23 = .ok (.iload_n 1, 1) := by decide +kernel
theorem dX7_lackTo_24 : decode cX7_lackTo 24 = .ok (.aload_n 0, 1) := by decide +kernel
theorem dX7_lackTo_25 : decode cX7_lackTo 25 = .ok (.getfield 9, 3) := by decide +kernel
theorem dX7_lackTo_28 : decode cX7_lackTo 28 = .ok (.iload 4, 2) := by decide +kernel
theorem dX7_lackTo_30 : decode cX7_lackTo 30 = .ok (.iaload, 1) := by decide +kernel
theorem dX7_lackTo_31 : decode cX7_lackTo 31 = .ok (.isub, 1) := by decide +kernel
theorem dX7_lackTo_32 : decode cX7_lackTo 32 = .ok (.iconst 0, 1) := by decide +kernel
theorem dX7_lackTo_33 : decode cX7_lackTo 33 = .ok (.invokestatic 49, 3) := by decide +kernel
theorem dX7_lackTo_36 : decode cX7_lackTo 36 = .ok (.iadd, 1) := by decide +kernel
theorem dX7_lackTo_37 : decode cX7_lackTo 37 = .ok (.istore_n 3, 1) := by decide +kernel
theorem dX7_lackTo_38 : decode cX7_lackTo 38 = .ok (.iinc 4 1, 3) := by decide +kernel
theorem dX7_lackTo_41 : decode cX7_lackTo 41 = .ok (.goto (-36), 3) := by decide +kernel
theorem dX7_lackTo_44 : decode cX7_lackTo 44 = .ok (.iload_n 3, 1) := by decide +kernel
theorem dX7_lackTo_45 : decode cX7_lackTo 45 = .ok (.ireturn, 1) := by decide +kernel
theorem dX8_init_0 : decode cX8_init 0 = .ok (.aload_n 0, 1) := by decide +kernel
theorem dX8_init_1 : decode cX8_init 1 = .ok (.invokespecial 1, 3) := by decide +kernel
theorem dX8_init_4 : decode cX8_init 4 = .ok (.aload_n 0, 1) := by decide +kernel
theorem dX8_init_5 : decode cX8_init 5 = .ok (.new 7, 3) := by decide +kernel
theorem dX8_init_8 : decode cX8_init 8 = .ok (.dup, 1) := by decide +kernel
theorem dX8_init_9 : decode cX8_init 9 = .ok (.invokespecial 9, 3) := by decide +kernel
theorem dX8_init_12 : decode cX8_init 12 = .ok (.putfield 10, 3) := by decide +kernel
theorem dX8_init_15 : decode cX8_init 15 = .ok (.aload_n 0, 1) := by decide +kernel
theorem dX8_init_16 : decode cX8_init 16 = .ok (.new 16, 3) := by decide +kernel
theorem dX8_init_19 : decode cX8_init 19 = .ok (.dup, 1) := by decide +kernel
theorem dX8_init_20 : decode cX8_init 20 = .ok (.invokespecial 18, 3) := by decide +kernel
theorem dX8_init_23 : decode cX8_init 23 = .ok (.putfield 19, 3) := by decide +kernel
theorem dX8_init_26 : decode cX8_init 26 = .ok (.return_, 1) := by decide +kernel
theorem dX8_begin_0 : decode cX8_begin 0 = .ok (.aload_n 0, 1) := by decide +kernel
theorem dX8_begin_1 : decode cX8_begin 1 = .ok (.getfield 10, 3) := by decide +kernel
theorem dX8_begin_4 : decode cX8_begin 4 = .ok (.invokevirtual 23, 3) := by decide +kernel
theorem dX8_begin_7 : decode cX8_begin 7 = .ok (.aload_n 0, 1) := by decide +kernel
theorem dX8_begin_8 : decode cX8_begin 8 = .ok (.new 16, 3) := by decide +kernel
theorem dX8_begin_11 : decode cX8_begin 11 = .ok (.dup, 1) := by decide +kernel
theorem dX8_begin_12 : decode cX8_begin 12 = .ok (.invokespecial 18, 3) := by decide +kernel
theorem dX8_begin_15 : decode cX8_begin 15 = .ok (.putfield 19, 3) := by decide +kernel
theorem dX8_begin_18 : decode cX8_begin 18 = .ok (.aload_n 0, 1) := by decide +kernel
theorem dX8_begin_19 : decode cX8_begin 19 = .ok (.iconst 0, 1) := by decide +kernel
theorem dX8_begin_20 : decode cX8_begin 20 = .ok (.putfield 26, 3) := by decide +kernel
theorem dX8_begin_23 : decode cX8_begin 23 = .ok (.return_, 1) := by decide +kernel
theorem dX8_become_0 : decode cX8_become 0 = .ok (.aload_n 0, 1) := by decide +kernel
theorem dX8_become_1 : decode cX8_become 1 = .ok (.getfield 10, 3) := by decide +kernel
theorem dX8_become_4 : decode cX8_become 4 = .ok (.aload_n 1, 1) := by decide +kernel
theorem dX8_become_5 : decode cX8_become 5 = .ok (.getfield 10, 3) := by decide +kernel
theorem dX8_become_8 : decode cX8_become 8 = .ok (.invokevirtual 30, 3) := by decide +kernel
theorem dX8_become_11 : decode cX8_become 11 = .ok (.aload_n 0, 1) := by decide +kernel
theorem dX8_become_12 : decode cX8_become 12 = .ok (.aload_n 1, 1) := by decide +kernel
theorem dX8_become_13 : decode cX8_become 13 = .ok (.getfield 19, 3) := by decide +kernel
theorem dX8_become_16 : decode cX8_become 16 = .ok (.putfield 19, 3) := by decide +kernel
theorem dX8_become_19 : decode cX8_become 19 = .ok (.aload_n 0, 1) := by decide +kernel
theorem dX8_become_20 : decode cX8_become 20 = .ok (.aload_n 1, 1) := by decide +kernel
theorem dX8_become_21 : decode cX8_become 21 = .ok (.getfield 26, 3) := by decide +kernel
theorem dX8_become_24 : decode cX8_become 24 = .ok (.putfield 26, 3) := by decide +kernel
theorem dX8_become_27 : decode cX8_become 27 = .ok (.return_, 1) := by decide +kernel
theorem dX8_makeAll_0 : decode cX8_makeAll 0 = .ok (.iconst 0, 1) := by decide +kernel
theorem dX8_makeAll_1 : decode cX8_makeAll 1 = .ok (.istore_n 2, 1) := by decide +kernel
theorem dX8_makeAll_2 : decode cX8_makeAll 2 = .ok (.iload_n 2, 1) := by decide +kernel
theorem dX8_makeAll_3 : decode cX8_makeAll 3 = .ok (.aload_n 0, 1) := by decide +kernel
theorem dX8_makeAll_4 : decode cX8_makeAll 4 = .ok (.getfield 19, 3) := by decide +kernel
theorem dX8_makeAll_7 : decode cX8_makeAll 7 = .ok (.invokevirtual 34, 3) := by decide +kernel
theorem dX8_makeAll_10 : decode cX8_makeAll 10 = .ok (.if_icmp .ge 24, 3) := by decide +kernel
theorem dX8_makeAll_13 : decode cX8_makeAll 13 = .ok (.aload_n 0, 1) := by decide +kernel
theorem dX8_makeAll_14 : decode cX8_makeAll 14 = .ok (.getfield 19, 3) := by decide +kernel
theorem dX8_makeAll_17 : decode cX8_makeAll 17 = .ok (.iload_n 2, 1) := by decide +kernel
theorem dX8_makeAll_18 : decode cX8_makeAll 18 = .ok (.invokevirtual 38, 3) := by decide +kernel
theorem dX8_makeAll_21 : decode cX8_makeAll 21 = .ok (.checkcast 42, 3) := by decide +kernel
theorem dX8_makeAll_24 : decode cX8_makeAll 24 = .ok (.aload_n 1, 1) := by decide +kernel
theorem dX8_makeAll_25 : decode cX8_makeAll 25 = .ok (.invokevirtual 44, 3) := by decide +kernel
theorem dX8_makeAll_28 : decode cX8_makeAll 28 = .ok (.iinc 2 1, 3) := by decide +kernel
theorem dX8_makeAll_31 : decode cX8_makeAll 31 = .ok (.goto (-29), 3) := by decide +kernel
theorem dX8_makeAll_34 : decode cX8_makeAll 34 = .ok (.return_, 1) := by decide +kernel
theorem dX8_makeSome_0 : decode cX8_makeSome 0 = .ok (.iconst 0, 1) := by decide +kernel
theorem dX8_makeSome_1 : decode cX8_makeSome 1 = .ok (.istore_n 3, 1) := by decide +kernel
theorem dX8_makeSome_2 : decode cX8_makeSome 2 = .ok (.iload_n 3, 1) := by decide +kernel
theorem dX8_makeSome_3 : decode cX8_makeSome 3 = .ok (.aload_n 0, 1) := by decide +kernel
theorem dX8_makeSome_4 : decode cX8_makeSome 4 = .ok (.getfield 19, 3) := by decide +kernel
theorem dX8_makeSome_7 : decode cX8_makeSome 7 = .ok (.invokevirtual 34, 3) := by decide +kernel
theorem dX8_makeSome_10 : decode cX8_makeSome 10 = .ok (.if_icmp .ge 33, 3) := by decide +kernel
theorem dX8_makeSome_13 : decode cX8_makeSome 13 = .ok (.iload_n 1, 1) := by decide +kernel
theorem dX8_makeSome_14 : decode cX8_makeSome 14 = .ok (.iload_n 3, 1) := by decide +kernel
theorem dX8_makeSome_15 : decode cX8_makeSome 15 = .ok (.ishr, 1) := by decide +kernel
theorem dX8_makeSome_16 : decode cX8_makeSome 16 = .ok (.iconst 1, 1) := by decide +kernel
theorem dX8_makeSome_17 : decode cX8_makeSome 17 = .ok (.iand, 1) := by decide +kernel
theorem dX8_makeSome_18 : decode cX8_makeSome 18 = .ok (.iconst 1, 1) := by decide +kernel
theorem dX8_makeSome_19 : decode cX8_makeSome 19 = .ok (.if_icmp .ne 18, 3) := by decide +kernel
theorem dX8_makeSome_22 : decode cX8_makeSome 22 = .ok (.aload_n 0, 1) := by decide +kernel
theorem dX8_makeSome_23 : decode cX8_makeSome 23 = .ok (.getfield 19, 3) := by decide +kernel
theorem dX8_makeSome_26 : decode cX8_makeSome 26 = .ok (.iload_n 3, 1) := by decide +kernel
theorem dX8_makeSome_27 : decode cX8_makeSome 27 = .ok (.invokevirtual 38, 3) := by decide +kernel
theorem dX8_makeSome_30 : decode cX8_makeSome 30 = .ok (.checkcast 42, 3) := by decide +kernel
theorem dX8_makeSome_33 : decode cX8_makeSome 33 = .ok (.aload_n 2, 1) := by decide +kernel
theorem dX8_makeSome_34 : decode cX8_makeSome 34 = .ok (.invokevirtual 44, 3) := by decide +kernel
theorem dX8_makeSome_37 : decode cX8_makeSome 37 = .ok (.iinc 3 1, 3) := by decide +kernel
theorem dX8_makeSome_40 : decode cX8_makeSome 40 = .ok (.goto (-38), 3) := by decide +kernel
theorem dX8_makeSome_43 : decode cX8_makeSome 43 = .ok (.return_, 1) := by decide +kernel
theorem dX8_cellsOf_0 : decode cX8_cellsOf 0 = .ok (.iconst 0, 1) := by decide +kernel
theorem dX8_cellsOf_1 : decode cX8_cellsOf 1 = .ok (.istore_n 2, 1) := by decide +kernel
theorem dX8_cellsOf_2 : decode cX8_cellsOf 2 = .ok (.iconst 0, 1) := by decide +kernel
theorem dX8_cellsOf_3 : decode cX8_cellsOf 3 = .ok (.istore_n 3, 1) := by decide +kernel
theorem dX8_cellsOf_4 : decode cX8_cellsOf 4 = .ok (.iload_n 3, 1) := by decide +kernel
theorem dX8_cellsOf_5 : decode cX8_cellsOf 5 = .ok (.aload_n 0, 1) := by decide +kernel
theorem dX8_cellsOf_6 : decode cX8_cellsOf 6 = .ok (.getfield 19, 3) := by decide +kernel
theorem dX8_cellsOf_9 : decode cX8_cellsOf 9 = .ok (.invokevirtual 34, 3) := by decide +kernel
theorem dX8_cellsOf_12 : decode cX8_cellsOf 12 = .ok (.if_icmp .ge 35, 3) := by decide +kernel
theorem dX8_cellsOf_15 : decode cX8_cellsOf 15 = .ok (.iload_n 1, 1) := by decide +kernel
theorem dX8_cellsOf_16 : decode cX8_cellsOf 16 = .ok (.iload_n 3, 1) := by decide +kernel
theorem dX8_cellsOf_17 : decode cX8_cellsOf 17 = .ok (.ishr, 1) := by decide +kernel
theorem dX8_cellsOf_18 : decode cX8_cellsOf 18 = .ok (.iconst 1, 1) := by decide +kernel
theorem dX8_cellsOf_19 : decode cX8_cellsOf 19 = .ok (.iand, 1) := by decide +kernel
theorem dX8_cellsOf_20 : decode cX8_cellsOf 20 = .ok (.iconst 1, 1) := by decide +kernel
theorem dX8_cellsOf_21 : decode cX8_cellsOf 21 = .ok (.if_icmp .ne 20, 3) := by decide +kernel
theorem dX8_cellsOf_24 : decode cX8_cellsOf 24 = .ok (.iload_n 2, 1) := by decide +kernel
theorem dX8_cellsOf_25 : decode cX8_cellsOf 25 = .ok (.aload_n 0, 1) := by decide +kernel
theorem dX8_cellsOf_26 : decode cX8_cellsOf 26 = .ok (.getfield 19, 3) := by decide +kernel
theorem dX8_cellsOf_29 : decode cX8_cellsOf 29 = .ok (.iload_n 3, 1) := by decide +kernel
theorem dX8_cellsOf_30 : decode cX8_cellsOf 30 = .ok (.invokevirtual 38, 3) := by decide +kernel
theorem dX8_cellsOf_33 : decode cX8_cellsOf 33 = .ok (.checkcast 42, 3) := by decide +kernel
theorem dX8_cellsOf_36 : decode cX8_cellsOf 36 = .ok (.invokevirtual 47, 3) := by decide +kernel
theorem dX8_cellsOf_39 : decode cX8_cellsOf 39 = .ok (.ior, 1) := by decide +kernel
theorem dX8_cellsOf_40 : decode cX8_cellsOf 40 = .ok (.istore_n 2, 1) := by decide +kernel
theorem dX8_cellsOf_41 : decode cX8_cellsOf 41 = .ok (.iinc 3 1, 3) := by decide +kernel
theorem dX8_cellsOf_44 : decode cX8_cellsOf 44 = .ok (.goto (-40), 3) := by decide +kernel
theorem dX8_cellsOf_47 : decode cX8_cellsOf 47 = .ok (.iload_n 2, 1) := by decide +kernel
theorem dX8_cellsOf_48 : decode cX8_cellsOf 48 = .ok (.ireturn, 1) := by decide +kernel
theorem dX8_passesAcross_0 : decode cX8_passesAcross 0 = .ok (.iconst 0, 1) := by decide +kernel
theorem dX8_passesAcross_1 : decode cX8_passesAcross 1 = .ok (.istore_n 2, 1) := by decide +kernel
theorem dX8_passesAcross_2 : decode cX8_passesAcross 2 = .ok (.iconst 0, 1) := by decide +kernel
theorem dX8_passesAcross_3 : decode cX8_passesAcross 3 = .ok (.istore_n 3, 1) := by decide +kernel
theorem dX8_passesAcross_4 : decode cX8_passesAcross 4 = .ok (.iload_n 3, 1) := by decide +kernel
theorem dX8_passesAcross_5 : decode cX8_passesAcross 5 = .ok (.aload_n 0, 1) := by decide +kernel
theorem dX8_passesAcross_6 : decode cX8_passesAcross 6 = .ok (.getfield 19, 3) := by decide +kernel
theorem dX8_passesAcross_9 : decode cX8_passesAcross 9 = .ok (.invokevirtual 34, 3) := by decide +kernel
theorem dX8_passesAcross_12 : decode cX8_passesAcross 12 = .ok (.if_icmp .ge 32, 3) := by decide +kernel
theorem dX8_passesAcross_15 : decode cX8_passesAcross 15 = .ok (.iload_n 2, 1) := by decide +kernel
theorem dX8_passesAcross_16 : decode cX8_passesAcross 16 = .ok (.aload_n 0, 1) := by decide +kernel
theorem dX8_passesAcross_17 : decode cX8_passesAcross 17 = .ok (.getfield 19, 3) := by decide +kernel
theorem dX8_passesAcross_20 : decode cX8_passesAcross 20 = .ok (.iload_n 3, 1) := by decide +kernel
theorem dX8_passesAcross_21 : decode cX8_passesAcross 21 = .ok (.invokevirtual 38, 3) := by decide +kernel
theorem dX8_passesAcross_24 : decode cX8_passesAcross 24 = .ok (.checkcast 42, 3) := by decide +kernel
theorem dX8_passesAcross_27 : decode cX8_passesAcross 27 = .ok (.invokevirtual 47, 3) := by decide +kernel
theorem dX8_passesAcross_30 : decode cX8_passesAcross 30 = .ok (.iload_n 1, 1) := by decide +kernel
theorem dX8_passesAcross_31 : decode cX8_passesAcross 31 = .ok (.ishr, 1) := by decide +kernel
theorem dX8_passesAcross_32 : decode cX8_passesAcross 32 = .ok (.iconst 1, 1) := by decide +kernel
theorem dX8_passesAcross_33 : decode cX8_passesAcross 33 = .ok (.iand, 1) := by decide +kernel
theorem dX8_passesAcross_34 : decode cX8_passesAcross 34 = .ok (.iload_n 3, 1) := by decide +kernel
theorem dX8_passesAcross_35 : decode cX8_passesAcross 35 = .ok (.ishl, 1) := by decide +kernel
theorem dX8_passesAcross_36 : decode cX8_passesAcross 36 = .ok (.ior, 1) := by decide +kernel
theorem dX8_passesAcross_37 : decode cX8_passesAcross 37 = .ok (.istore_n 2, 1) := by decide +kernel
theorem dX8_passesAcross_38 : decode cX8_passesAcross 38 = .ok (.iinc 3 1, 3) := by decide +kernel
theorem dX8_passesAcross_41 : decode cX8_passesAcross 41 = .ok (.goto (-37), 3) := by decide +kernel
theorem dX8_passesAcross_44 : decode cX8_passesAcross 44 = .ok (.iload_n 2, 1) := by decide +kernel
theorem dX8_passesAcross_45 : decode cX8_passesAcross 45 = .ok (.ireturn, 1) := by decide +kernel
theorem dX9_init_0 : decode cX9_init 0 = .ok (.aload_n 0, 1) := by decide +kernel
theorem dX9_init_1 : decode cX9_init 1 = .ok (.invokespecial 3, 3) := by decide +kernel
theorem dX9_init_4 : decode cX9_init 4 = .ok (.aload_n 0, 1) := by decide +kernel
theorem dX9_init_5 : decode cX9_init 5 = .ok (.bipush 120, 2) := by decide +kernel
theorem dX9_init_7 : decode cX9_init 7 = .ok (.newarray .int, 2) := by decide +kernel
theorem dX9_init_9 : decode cX9_init 9 = .ok (.putfield 9, 3) := by decide +kernel
theorem dX9_init_12 : decode cX9_init 12 = .ok (.aload_n 0, 1) := by decide +kernel
theorem dX9_init_13 : decode cX9_init 13 = .ok (.bipush 9, 2) := by decide +kernel
theorem dX9_init_15 : decode cX9_init 15 = .ok (.newarray .int, 2) := by decide +kernel
theorem dX9_init_17 : decode cX9_init 17 = .ok (.putfield 15, 3) := by decide +kernel
theorem dX9_init_20 : decode cX9_init 20 = .ok (.return_, 1) := by decide +kernel
theorem dX9_append_0 : decode cX9_append 0 = .ok (.aload_n 0, 1) := by decide +kernel
theorem dX9_append_1 : decode cX9_append 1 = .ok (.getfield 18, 3) := by decide +kernel
theorem dX9_append_4 : decode cX9_append 4 = .ok (.bipush 120, 2) := by decide +kernel
theorem dX9_append_6 : decode cX9_append 6 = .ok (.if_icmp .lt 5, 3) := by decide +kernel
theorem dX9_append_9 : decode cX9_append 9 = .ok (.iconst 0, 1) := by decide +kernel
theorem dX9_append_10 : decode cX9_append 10 = .ok (.ireturn, 1) := by decide +kernel
theorem dX9_append_11 : decode cX9_append 11 = .ok (.aload_n 0, 1) := by decide +kernel
theorem dX9_append_12 : decode cX9_append 12 = .ok (.getfield 9, 3) := by decide +kernel
theorem dX9_append_15 : decode cX9_append 15 = .ok (.aload_n 0, 1) := by decide +kernel
theorem dX9_append_16 : decode cX9_append 16 = .ok (.getfield 18, 3) := by decide +kernel
theorem dX9_append_19 : decode cX9_append 19 = .ok (.iload_n 1, 1) := by decide +kernel
theorem dX9_append_20 : decode cX9_append 20 = .ok (.iastore, 1) := by decide +kernel
theorem dX9_append_21 : decode cX9_append 21 = .ok (.aload_n 0, 1) := by decide +kernel
theorem dX9_append_22 : decode cX9_append 22 = .ok (.dup, 1) := by decide +kernel
theorem dX9_append_23 : decode cX9_append 23 = .ok (.getfield 18, 3) := by decide +kernel
theorem dX9_append_26 : decode cX9_append 26 = .ok (.iconst 1, 1) := by decide +kernel
theorem dX9_append_27 : decode cX9_append 27 = .ok (.iadd, 1) := by decide +kernel
theorem dX9_append_28 : decode cX9_append 28 = .ok (.putfield 18, 3) := by decide +kernel
theorem dX9_append_31 : decode cX9_append 31 = .ok (.iconst 1, 1) := by decide +kernel
theorem dX9_append_32 : decode cX9_append 32 = .ok (.ireturn, 1) := by decide +kernel
theorem dX9_readInto_0 : decode cX9_readInto 0 = .ok (.aload_n 0, 1) := by decide +kernel
theorem dX9_readInto_1 : decode cX9_readInto 1 = .ok (.iconst 0, 1) := by decide +kernel
theorem dX9_readInto_2 : decode cX9_readInto 2 = .ok (.putfield 22, 3) := by decide +kernel
theorem dX9_readInto_5 : decode cX9_readInto 5 = .ok (.aload_n 1, 1) := by decide +kernel
theorem dX9_readInto_6 : decode cX9_readInto 6 = .ok (.invokevirtual 25, 3) := by decide +kernel
theorem dX9_readInto_9 : decode cX9_readInto 9 = .ok (.aload_n 0, 1) := by decide +kernel
theorem dX9_readInto_10 : decode cX9_readInto 10 = .ok (.aload_n 1, 1) := by decide +kernel
theorem dX9_readInto_11 : decode cX9_readInto 11 = .ok (.invokevirtual 30, 3) := by decide +kernel
theorem dX9_readInto_14 : decode cX9_readInto 14 = .ok (.ifCond .eq 23, 3) := by decide +kernel
theorem dX9_readInto_17 : decode cX9_readInto 17 = .ok (.aload_n 0, 1) := by decide +kernel
theorem dX9_readInto_18 : decode cX9_readInto 18 = .ok (.aload_n 1, 1) := by decide +kernel
theorem dX9_readInto_19 : decode cX9_readInto 19 = .ok (.invokevirtual 34, 3) := by decide +kernel
theorem dX9_readInto_22 : decode cX9_readInto 22 = .ok (.ifCond .eq 15, 3) := by decide +kernel
theorem dX9_readInto_25 : decode cX9_readInto 25 = .ok (.aload_n 0, 1) := by decide +kernel
theorem dX9_readInto_26 : decode cX9_readInto 26 = .ok (.aload_n 1, 1) := by decide +kernel
theorem dX9_readInto_27 : decode cX9_readInto 27 = .ok (.invokevirtual 37, 3) := by decide +kernel
theorem dX9_readInto_30 : decode cX9_readInto 30 = .ok (.ifCond .eq 7, 3) := by decide +kernel
theorem dX9_readInto_33 : decode cX9_readInto 33 = .ok (.iconst 1, 1) := by decide +kernel
theorem dX9_readInto_34 : decode cX9_readInto 34 = .ok (.goto 4, 3) := by decide +kernel
theorem dX9_readInto_37 : decode cX9_readInto 37 = .ok (.iconst 0, 1) := by decide +kernel
theorem dX9_readInto_38 : decode cX9_readInto 38 = .ok (.ireturn, 1) := by decide +kernel
theorem dX9_readLaw_0 : decode cX9_readLaw 0 = .ok (.aload_n 0, 1) := by decide +kernel
theorem dX9_readLaw_1 : decode cX9_readLaw 1 = .ok (.bipush 116, 2) := by decide +kernel
theorem dX9_readLaw_3 : decode cX9_readLaw 3 = .ok (.invokevirtual 40, 3) := by decide +kernel
theorem dX9_readLaw_6 : decode cX9_readLaw 6 = .ok (.ifCond .ne 5, 3) := by decide +kernel
theorem dX9_readLaw_9 : decode cX9_readLaw 9 = .ok (.iconst 0, 1) := by decide +kernel
theorem dX9_readLaw_10 : decode cX9_readLaw 10 = .ok (.ireturn, 1) := by decide +kernel
theorem dX9_readLaw_11 : decode cX9_readLaw 11 = .ok (.aload_n 1, 1) := by decide +kernel
theorem dX9_readLaw_12 : decode cX9_readLaw 12 = .ok (.aload_n 0, 1) := by decide +kernel
theorem dX9_readLaw_13 : decode cX9_readLaw 13 = .ok (.bipush 9, 2) := by decide +kernel
theorem dX9_readLaw_15 : decode cX9_readLaw 15 = .ok (.invokevirtual 44, 3) := by decide +kernel
theorem dX9_readLaw_18 : decode cX9_readLaw 18 = .ok (.putfield 48, 3) := by decide +kernel
theorem dX9_readLaw_21 : decode cX9_readLaw 21 = .ok (.aload_n 1, 1) := by decide +kernel
theorem dX9_readLaw_22 : decode cX9_readLaw 22 = .ok (.getfield 48, 3) := by decide +kernel
theorem dX9_readLaw_25 : decode cX9_readLaw 25 = .ok (.ifCond .lt 12, 3) := by decide +kernel
theorem dX9_readLaw_28 : decode cX9_readLaw 28 = .ok (.aload_n 0, 1) := by decide +kernel
theorem dX9_readLaw_29 : decode cX9_readLaw 29 = .ok (.bipush 44, 2) := by decide +kernel
theorem dX9_readLaw_31 : decode cX9_readLaw 31 = .ok (.invokevirtual 40, 3) := by decide +kernel
theorem dX9_readLaw_34 : decode cX9_readLaw 34 = .ok (.ifCond .ne 5, 3) := by decide +kernel
theorem dX9_readLaw_37 : decode cX9_readLaw 37 = .ok (.iconst 0, 1) := by decide +kernel
theorem dX9_readLaw_38 : decode cX9_readLaw 38 = .ok (.ireturn, 1) := by decide +kernel
theorem dX9_readLaw_39 : decode cX9_readLaw 39 = .ok (.aload_n 1, 1) := by decide +kernel
theorem dX9_readLaw_40 : decode cX9_readLaw 40 = .ok (.getfield 51, 3) := by decide +kernel
theorem dX9_readLaw_43 : decode cX9_readLaw 43 = .ok (.aload_n 0, 1) := by decide +kernel
theorem dX9_readLaw_44 : decode cX9_readLaw 44 = .ok (.bipush 9, 2) := by decide +kernel
theorem dX9_readLaw_46 : decode cX9_readLaw 46 = .ok (.invokevirtual 44, 3) := by decide +kernel
theorem dX9_readLaw_49 : decode cX9_readLaw 49 = .ok (.putfield 55, 3) := by decide +kernel
theorem dX9_readLaw_52 : decode cX9_readLaw 52 = .ok (.aload_n 1, 1) := by decide +kernel
theorem dX9_readLaw_53 : decode cX9_readLaw 53 = .ok (.getfield 51, 3) := by decide +kernel
theorem dX9_readLaw_56 : decode cX9_readLaw 56 = .ok (.getfield 55, 3) := by decide +kernel
theorem dX9_readLaw_59 : decode cX9_readLaw 59 = .ok (.ifCond .lt 16, 3) := by decide +kernel
theorem dX9_readLaw_62 : decode cX9_readLaw 62 = .ok (.aload_n 0, 1) := by decide +kernel
theorem dX9_readLaw_63 : decode cX9_readLaw 63 = .ok (.bipush 59, 2) := by decide +kernel
theorem dX9_readLaw_65 : decode cX9_readLaw 65 = .ok (.invokevirtual 40, 3) := by decide +kernel
theorem dX9_readLaw_68 : decode cX9_readLaw 68 = .ok (.ifCond .eq 7, 3) := by decide +kernel
theorem dX9_readLaw_71 : decode cX9_readLaw 71 = .ok (.iconst 1, 1) := by decide +kernel
theorem dX9_readLaw_72 : decode cX9_readLaw 72 = .ok (.goto 4, 3) := by decide +kernel
theorem dX9_readLaw_75 : decode cX9_readLaw 75 = .ok (.iconst 0, 1) := by decide +kernel
theorem dX9_readLaw_76 : decode cX9_readLaw 76 = .ok (.ireturn, 1) := by decide +kernel
theorem dX9_readCells_0 : decode cX9_readCells 0 = .ok (.iconst 0, 1) := by decide +kernel
theorem dX9_readCells_1 : decode cX9_readCells 1 = .ok (.istore_n 2, 1) := by decide +kernel
theorem dX9_readCells_2 : decode cX9_readCells 2 = .ok (.iconst 0, 1) := by decide +kernel
theorem dX9_readCells_3 : decode cX9_readCells 3 = .ok (.istore_n 3, 1) := by decide +kernel
theorem dX9_readCells_4 : decode cX9_readCells 4 = .ok (.iload_n 3, 1) := by decide +kernel
theorem dX9_readCells_5 : decode cX9_readCells 5 = .ok (.bipush 15, 2) := by decide +kernel
theorem dX9_readCells_7 : decode cX9_readCells 7 = .ok (.if_icmp .gt 137, 3) := by decide +kernel
theorem dX9_readCells_10 : decode cX9_readCells 10 = .ok (.aload_n 0, 1) := by decide +kernel
theorem dX9_readCells_11 : decode cX9_readCells 11 = .ok (.invokevirtual 60, 3) := by decide +kernel
theorem dX9_readCells_14 : decode cX9_readCells 14 = .ok (.bipush 102, 2) := by decide +kernel
theorem dX9_readCells_16 : decode cX9_readCells 16 = .ok (.if_icmp .ne 128, 3) := by decide +kernel
theorem dX9_readCells_19 : decode cX9_readCells 19 = .ok (.iload_n 3, 1) := by decide +kernel
theorem dX9_readCells_20 : decode cX9_readCells 20 = .ok (.bipush 15, 2) := by decide +kernel
theorem dX9_readCells_22 : decode cX9_readCells 22 = .ok (.if_icmp .ne 9, 3) := by decide +kernel
theorem dX9_readCells_25 : decode cX9_readCells 25 = .ok (.aload_n 0, 1) := by decide +kernel
theorem dX9_readCells_26 : decode cX9_readCells 26 = .ok (.iconst 3, 1) := by decide +kernel
theorem dX9_readCells_27 : decode cX9_readCells 27 = .ok (.invokevirtual 64, 3) := by decide +kernel
theorem dX9_readCells_30 : decode cX9_readCells 30 = .ok (.ireturn, 1) := by decide +kernel
theorem dX9_readCells_31 : decode cX9_readCells 31 = .ok (.aload_n 0, 1) := by decide +kernel
theorem dX9_readCells_32 : decode cX9_readCells 32 = .ok (.dup, 1) := by decide +kernel
theorem dX9_readCells_33 : decode cX9_readCells 33 = .ok (.getfield 22, 3) := by decide +kernel
theorem dX9_readCells_36 : decode cX9_readCells 36 = .ok (.iconst 1, 1) := by decide +kernel
theorem dX9_readCells_37 : decode cX9_readCells 37 = .ok (.iadd, 1) := by decide +kernel
theorem dX9_readCells_38 : decode cX9_readCells 38 = .ok (.putfield 22, 3) := by decide +kernel
theorem dX9_readCells_41 : decode cX9_readCells 41 = .ok (.aload_n 0, 1) := by decide +kernel
theorem dX9_readCells_42 : decode cX9_readCells 42 = .ok (.getfield 22, 3) := by decide +kernel
theorem dX9_readCells_45 : decode cX9_readCells 45 = .ok (.istore 4, 2) := by decide +kernel
theorem dX9_readCells_47 : decode cX9_readCells 47 = .ok (.aload_n 0, 1) := by decide +kernel
theorem dX9_readCells_48 : decode cX9_readCells 48 = .ok (.bipush 14, 2) := by decide +kernel
theorem dX9_readCells_50 : decode cX9_readCells 50 = .ok (.invokevirtual 44, 3) := by decide +kernel
theorem dX9_readCells_53 : decode cX9_readCells 53 = .ok (.istore 5, 2) := by decide +kernel
theorem dX9_readCells_55 : decode cX9_readCells 55 = .ok (.iload 5, 2) := by decide +kernel
theorem dX9_readCells_57 : decode cX9_readCells 57 = .ok (.ifCond .ge 5, 3) := by decide +kernel
theorem dX9_readCells_60 : decode cX9_readCells 60 = .ok (.iconst 0, 1) := by decide +kernel
theorem dX9_readCells_61 : decode cX9_readCells 61 = .ok (.ireturn, 1) := by decide +kernel
theorem dX9_readCells_62 : decode cX9_readCells 62 = .ok (.iload_n 2, 1) := by decide +kernel
theorem dX9_readCells_63 : decode cX9_readCells 63 = .ok (.iload 5, 2) := by decide +kernel
theorem dX9_readCells_65 : decode cX9_readCells 65 = .ok (.ishr, 1) := by decide +kernel
theorem dX9_readCells_66 : decode cX9_readCells 66 = .ok (.iconst 1, 1) := by decide +kernel
theorem dX9_readCells_67 : decode cX9_readCells 67 = .ok (.iand, 1) := by decide +kernel
theorem dX9_readCells_68 : decode cX9_readCells 68 = .ok (.iconst 1, 1) := by decide +kernel
theorem dX9_readCells_69 : decode cX9_readCells 69 = .ok (.if_icmp .ne 15, 3) := by decide +kernel
theorem dX9_readCells_72 : decode cX9_readCells 72 = .ok (.aload_n 0, 1) := by decide +kernel
theorem dX9_readCells_73 : decode cX9_readCells 73 = .ok (.iload 4, 2) := by decide +kernel
theorem dX9_readCells_75 : decode cX9_readCells 75 = .ok (.putfield 22, 3) := by decide +kernel
theorem dX9_readCells_78 : decode cX9_readCells 78 = .ok (.aload_n 0, 1) := by decide +kernel
theorem dX9_readCells_79 : decode cX9_readCells 79 = .ok (.iconst 2, 1) := by decide +kernel
theorem dX9_readCells_80 : decode cX9_readCells 80 = .ok (.invokevirtual 64, 3) := by decide +kernel
theorem dX9_readCells_83 : decode cX9_readCells 83 = .ok (.ireturn, 1) := by decide +kernel
theorem dX9_readCells_84 : decode cX9_readCells 84 = .ok (.iload_n 2, 1) := by decide +kernel
theorem dX9_readCells_85 : decode cX9_readCells 85 = .ok (.iconst 1, 1) := by decide +kernel
theorem dX9_readCells_86 : decode cX9_readCells 86 = .ok (.iload 5, 2) := by decide +kernel
theorem dX9_readCells_88 : decode cX9_readCells 88 = .ok (.ishl, 1) := by decide +kernel
theorem dX9_readCells_89 : decode cX9_readCells 89 = .ok (.ior, 1) := by decide +kernel
theorem dX9_readCells_90 : decode cX9_readCells 90 = .ok (.istore_n 2, 1) := by decide +kernel
theorem dX9_readCells_91 : decode cX9_readCells 91 = .ok (.aload_n 0, 1) := by decide +kernel
theorem dX9_readCells_92 : decode cX9_readCells 92 = .ok (.bipush 44, 2) := by decide +kernel
theorem dX9_readCells_94 : decode cX9_readCells 94 = .ok (.invokevirtual 40, 3) := by decide +kernel
theorem dX9_readCells_97 : decode cX9_readCells 97 = .ok (.ifCond .ne 5, 3) := by decide +kernel
theorem dX9_readCells_100 : decode cX9_readCells 100 = .ok (.iconst 0, 1) := by decide +kernel
theorem dX9_readCells_101 : decode cX9_readCells 101 = .ok (.ireturn, 1) := by decide +kernel
theorem dX9_readCells_102 : decode cX9_readCells 102 = .ok (.aload_n 0, 1) := by decide +kernel
theorem dX9_readCells_103 : decode cX9_readCells 103 = .ok (.bipush 99, 2) := by decide +kernel
theorem dX9_readCells_105 : decode cX9_readCells 105 = .ok (.invokevirtual 44, 3) := by decide +kernel
theorem dX9_readCells_108 : decode cX9_readCells 108 = .ok (.istore 6, 2) := by decide +kernel
theorem dX9_readCells_110 : decode cX9_readCells 110 = .ok (.iload 6, 2) := by decide +kernel
theorem dX9_readCells_112 : decode cX9_readCells 112 = .ok (.ifCond .lt 12, 3) := by decide +kernel
theorem dX9_readCells_115 : decode cX9_readCells 115 = .ok (.aload_n 0, 1) := by decide +kernel
theorem dX9_readCells_116 : decode cX9_readCells 116 = .ok (.bipush 59, 2) := by decide +kernel
theorem dX9_readCells_118 : decode cX9_readCells 118 = .ok (.invokevirtual 40, 3) := by decide +kernel
theorem dX9_readCells_121 : decode cX9_readCells 121 = .ok (.ifCond .ne 5, 3) := by decide +kernel
theorem dX9_readCells_124 : decode cX9_readCells 124 = .ok (.iconst 0, 1) := by decide +kernel
theorem dX9_readCells_125 : decode cX9_readCells 125 = .ok (.ireturn, 1) := by decide +kernel
theorem dX9_readCells_126 : decode cX9_readCells 126 = .ok (.aload_n 1, 1) := by decide +kernel
theorem dX9_readCells_127 : decode cX9_readCells 127 = .ok (.getfield 51, 3) := by decide +kernel
theorem dX9_readCells_130 : decode cX9_readCells 130 = .ok (.getfield 68, 3) := by decide +kernel
theorem dX9_readCells_133 : decode cX9_readCells 133 = .ok (.iload 5, 2) := by decide +kernel
theorem dX9_readCells_135 : decode cX9_readCells 135 = .ok (.iload 6, 2) := by decide +kernel
theorem dX9_readCells_137 : decode cX9_readCells 137 = .ok (.iastore, 1) := by decide +kernel
theorem dX9_readCells_138 : decode cX9_readCells 138 = .ok (.iinc 3 1, 3) := by decide +kernel
theorem dX9_readCells_141 : decode cX9_readCells 141 = .ok (.goto (-137), 3) := by decide +kernel
theorem dX9_readCells_144 : decode cX9_readCells 144 = .ok (.iconst 1, 1) := by decide +kernel
theorem dX9_readCells_145 : decode cX9_readCells 145 = .ok (.ireturn, 1) := by decide +kernel
theorem dX9_readPasses_0 : decode cX9_readPasses 0 = .ok (.iconst 0, 1) := by decide +kernel
theorem dX9_readPasses_1 : decode cX9_readPasses 1 = .ok (.istore_n 2, 1) := by decide +kernel
theorem dX9_readPasses_2 : decode cX9_readPasses 2 = .ok (.iload_n 2, 1) := by decide +kernel
theorem dX9_readPasses_3 : decode cX9_readPasses 3 = .ok (.iconst 4, 1) := by decide +kernel
theorem dX9_readPasses_4 : decode cX9_readPasses 4 = .ok (.if_icmp .gt 100, 3) := by decide +kernel
theorem dX9_readPasses_7 : decode cX9_readPasses 7 = .ok (.aload_n 0, 1) := by decide +kernel
theorem dX9_readPasses_8 : decode cX9_readPasses 8 = .ok (.invokevirtual 60, 3) := by decide +kernel
theorem dX9_readPasses_11 : decode cX9_readPasses 11 = .ok (.iconst (-1), 1) := by decide +kernel
theorem dX9_readPasses_12 : decode cX9_readPasses 12 = .ok (.if_icmp .eq 92, 3) := by decide +kernel
theorem dX9_readPasses_15 : decode cX9_readPasses 15 = .ok (.aload_n 0, 1) := by decide +kernel
theorem dX9_readPasses_16 : decode cX9_readPasses 16 = .ok (.invokevirtual 60, 3) := by decide +kernel
theorem dX9_readPasses_19 : decode cX9_readPasses 19 = .ok (.istore_n 3, 1) := by decide +kernel
theorem dX9_readPasses_20 : decode cX9_readPasses 20 = .ok (.iload_n 3, 1) := by decide +kernel
theorem dX9_readPasses_21 : decode cX9_readPasses 21 = .ok (.invokestatic 71, 3) := by decide +kernel
theorem dX9_readPasses_24 : decode cX9_readPasses 24 = .ok (.ifCond .ne 9, 3) := by decide +kernel
theorem dX9_readPasses_27 : decode cX9_readPasses 27 = .ok (.aload_n 0, 1) := by decide +kernel
theorem dX9_readPasses_28 : decode cX9_readPasses 28 = .ok (.iconst 1, 1) := by decide +kernel
theorem dX9_readPasses_29 : decode cX9_readPasses 29 = .ok (.invokevirtual 64, 3) := by decide +kernel
theorem dX9_readPasses_32 : decode cX9_readPasses 32 = .ok (.ireturn, 1) := by decide +kernel
theorem dX9_readPasses_33 : decode cX9_readPasses 33 = .ok (.iload_n 2, 1) := by decide +kernel
theorem dX9_readPasses_34 : decode cX9_readPasses 34 = .ok (.iconst 4, 1) := by decide +kernel
theorem dX9_readPasses_35 : decode cX9_readPasses 35 = .ok (.if_icmp .ne 9, 3) := by decide +kernel
theorem dX9_readPasses_38 : decode cX9_readPasses 38 = .ok (.aload_n 0, 1) := by decide +kernel
theorem dX9_readPasses_39 : decode cX9_readPasses 39 = .ok (.iconst 3, 1) := by decide +kernel
theorem dX9_readPasses_40 : decode cX9_readPasses 40 = .ok (.invokevirtual 64, 3) := by decide +kernel
theorem dX9_readPasses_43 : decode cX9_readPasses 43 = .ok (.ireturn, 1) := by decide +kernel
theorem dX9_readPasses_44 : decode cX9_readPasses 44 = .ok (.aload_n 0, 1) := by decide +kernel
theorem dX9_readPasses_45 : decode cX9_readPasses 45 = .ok (.dup, 1) := by decide +kernel
theorem dX9_readPasses_46 : decode cX9_readPasses 46 = .ok (.getfield 22, 3) := by decide +kernel
theorem dX9_readPasses_49 : decode cX9_readPasses 49 = .ok (.iconst 1, 1) := by decide +kernel
theorem dX9_readPasses_50 : decode cX9_readPasses 50 = .ok (.iadd, 1) := by decide +kernel
theorem dX9_readPasses_51 : decode cX9_readPasses 51 = .ok (.putfield 22, 3) := by decide +kernel
theorem dX9_readPasses_54 : decode cX9_readPasses 54 = .ok (.aload_n 0, 1) := by decide +kernel
theorem dX9_readPasses_55 : decode cX9_readPasses 55 = .ok (.invokevirtual 74, 3) := by decide +kernel
theorem dX9_readPasses_58 : decode cX9_readPasses 58 = .ok (.istore 4, 2) := by decide +kernel
theorem dX9_readPasses_60 : decode cX9_readPasses 60 = .ok (.iload 4, 2) := by decide +kernel
theorem dX9_readPasses_62 : decode cX9_readPasses 62 = .ok (.ifCond .lt 12, 3) := by decide +kernel
theorem dX9_readPasses_65 : decode cX9_readPasses 65 = .ok (.aload_n 0, 1) := by decide +kernel
theorem dX9_readPasses_66 : decode cX9_readPasses 66 = .ok (.bipush 59, 2) := by decide +kernel
theorem dX9_readPasses_68 : decode cX9_readPasses 68 = .ok (.invokevirtual 40, 3) := by decide +kernel
theorem dX9_readPasses_71 : decode cX9_readPasses 71 = .ok (.ifCond .ne 5, 3) := by decide +kernel
theorem dX9_readPasses_74 : decode cX9_readPasses 74 = .ok (.iconst 0, 1) := by decide +kernel
theorem dX9_readPasses_75 : decode cX9_readPasses 75 = .ok (.ireturn, 1) := by decide +kernel
theorem dX9_readPasses_76 : decode cX9_readPasses 76 = .ok (.aload_n 1, 1) := by decide +kernel
theorem dX9_readPasses_77 : decode cX9_readPasses 77 = .ok (.getfield 77, 3) := by decide +kernel
theorem dX9_readPasses_80 : decode cX9_readPasses 80 = .ok (.iload_n 3, 1) := by decide +kernel
theorem dX9_readPasses_81 : decode cX9_readPasses 81 = .ok (.iload_n 2, 1) := by decide +kernel
theorem dX9_readPasses_82 : decode cX9_readPasses 82 = .ok (.aload_n 0, 1) := by decide +kernel
theorem dX9_readPasses_83 : decode cX9_readPasses 83 = .ok (.getfield 15, 3) := by decide +kernel
theorem dX9_readPasses_86 : decode cX9_readPasses 86 = .ok (.iload 4, 2) := by decide +kernel
theorem dX9_readPasses_88 : decode cX9_readPasses 88 = .ok (.invokestatic 81, 3) := by decide +kernel
theorem dX9_readPasses_91 : decode cX9_readPasses 91 = .ok (.invokestatic 87, 3) := by decide +kernel
theorem dX9_readPasses_94 : decode cX9_readPasses 94 = .ok (.invokevirtual 91, 3) := by decide +kernel
theorem dX9_readPasses_97 : decode cX9_readPasses 97 = .ok (.pop, 1) := by decide +kernel
theorem dX9_readPasses_98 : decode cX9_readPasses 98 = .ok (.iinc 2 1, 3) := by decide +kernel
theorem dX9_readPasses_101 : decode cX9_readPasses 101 = .ok (.goto (-99), 3) := by decide +kernel
theorem dX9_readPasses_104 : decode cX9_readPasses 104 = .ok (.iconst 1, 1) := by decide +kernel
theorem dX9_readPasses_105 : decode cX9_readPasses 105 = .ok (.ireturn, 1) := by decide +kernel
theorem dX9_readWay_0 : decode cX9_readWay 0 = .ok (.aload_n 0, 1) := by decide +kernel
theorem dX9_readWay_1 : decode cX9_readWay 1 = .ok (.bipush 14, 2) := by decide +kernel
theorem dX9_readWay_3 : decode cX9_readWay 3 = .ok (.invokevirtual 44, 3) := by decide +kernel
theorem dX9_readWay_6 : decode cX9_readWay 6 = .ok (.istore_n 1, 1) := by decide +kernel
theorem dX9_readWay_7 : decode cX9_readWay 7 = .ok (.iload_n 1, 1) := by decide +kernel
theorem dX9_readWay_8 : decode cX9_readWay 8 = .ok (.ifCond .ge 5, 3) := by decide +kernel
theorem dX9_readWay_11 : decode cX9_readWay 11 = .ok (.iconst (-1), 1) := by decide +kernel
theorem dX9_readWay_12 : decode cX9_readWay 12 = .ok (.ireturn, 1) := by decide +kernel
theorem dX9_readWay_13 : decode cX9_readWay 13 = .ok (.aload_n 0, 1) := by decide +kernel
theorem dX9_readWay_14 : decode cX9_readWay 14 = .ok (.getfield 15, 3) := by decide +kernel
theorem dX9_readWay_17 : decode cX9_readWay 17 = .ok (.iconst 0, 1) := by decide +kernel
theorem dX9_readWay_18 : decode cX9_readWay 18 = .ok (.iload_n 1, 1) := by decide +kernel
theorem dX9_readWay_19 : decode cX9_readWay 19 = .ok (.iastore, 1) := by decide +kernel
theorem dX9_readWay_20 : decode cX9_readWay 20 = .ok (.iconst 1, 1) := by decide +kernel
theorem dX9_readWay_21 : decode cX9_readWay 21 = .ok (.istore_n 2, 1) := by decide +kernel
theorem dX9_readWay_22 : decode cX9_readWay 22 = .ok (.iload_n 2, 1) := by decide +kernel
theorem dX9_readWay_23 : decode cX9_readWay 23 = .ok (.bipush 8, 2) := by decide +kernel
theorem dX9_readWay_25 : decode cX9_readWay 25 = .ok (.if_icmp .gt 41, 3) := by decide +kernel
theorem dX9_readWay_28 : decode cX9_readWay 28 = .ok (.iload_n 1, 1) := by decide +kernel
theorem dX9_readWay_29 : decode cX9_readWay 29 = .ok (.aload_n 0, 1) := by decide +kernel
theorem dX9_readWay_30 : decode cX9_readWay 30 = .ok (.invokevirtual 60, 3) := by decide +kernel
theorem dX9_readWay_33 : decode cX9_readWay 33 = .ok (.invokestatic 97, 3) := by decide +kernel
theorem dX9_readWay_36 : decode cX9_readWay 36 = .ok (.istore_n 1, 1) := by decide +kernel
theorem dX9_readWay_37 : decode cX9_readWay 37 = .ok (.iload_n 1, 1) := by decide +kernel
theorem dX9_readWay_38 : decode cX9_readWay 38 = .ok (.ifCond .ge 5, 3) := by decide +kernel
theorem dX9_readWay_41 : decode cX9_readWay 41 = .ok (.iload_n 2, 1) := by decide +kernel
theorem dX9_readWay_42 : decode cX9_readWay 42 = .ok (.ireturn, 1) := by decide +kernel
theorem dX9_readWay_43 : decode cX9_readWay 43 = .ok (.aload_n 0, 1) := by decide +kernel
theorem dX9_readWay_44 : decode cX9_readWay 44 = .ok (.getfield 15, 3) := by decide +kernel
theorem dX9_readWay_47 : decode cX9_readWay 47 = .ok (.iload_n 2, 1) := by decide +kernel
theorem dX9_readWay_48 : decode cX9_readWay 48 = .ok (.iload_n 1, 1) := by decide +kernel
theorem dX9_readWay_49 : decode cX9_readWay 49 = .ok (.iastore, 1) := by decide +kernel
theorem dX9_readWay_50 : decode cX9_readWay 50 = .ok (.iinc 2 1, 3) := by decide +kernel
theorem dX9_readWay_53 : decode cX9_readWay 53 = .ok (.aload_n 0, 1) := by decide +kernel
theorem dX9_readWay_54 : decode cX9_readWay 54 = .ok (.dup, 1) := by decide +kernel
theorem dX9_readWay_55 : decode cX9_readWay 55 = .ok (.getfield 22, 3) := by decide +kernel
theorem dX9_readWay_58 : decode cX9_readWay 58 = .ok (.iconst 1, 1) := by decide +kernel
theorem dX9_readWay_59 : decode cX9_readWay 59 = .ok (.iadd, 1) := by decide +kernel
theorem dX9_readWay_60 : decode cX9_readWay 60 = .ok (.putfield 22, 3) := by decide +kernel
theorem dX9_readWay_63 : decode cX9_readWay 63 = .ok (.goto (-41), 3) := by decide +kernel
theorem dX9_readWay_66 : decode cX9_readWay 66 = .ok (.iload_n 2, 1) := by decide +kernel
theorem dX9_readWay_67 : decode cX9_readWay 67 = .ok (.ireturn, 1) := by decide +kernel
theorem dX9_beside_0 : decode cX9_beside 0 = .ok (.iload_n 0, 1) := by decide +kernel
theorem dX9_beside_1 : decode cX9_beside 1 = .ok (.iconst 5, 1) := by decide +kernel
theorem dX9_beside_2 : decode cX9_beside 2 = .ok (.irem, 1) := by decide +kernel
theorem dX9_beside_3 : decode cX9_beside 3 = .ok (.istore_n 2, 1) := by decide +kernel
theorem dX9_beside_4 : decode cX9_beside 4 = .ok (.iload_n 0, 1) := by decide +kernel
theorem dX9_beside_5 : decode cX9_beside 5 = .ok (.iconst 5, 1) := by decide +kernel
theorem dX9_beside_6 : decode cX9_beside 6 = .ok (.idiv, 1) := by decide +kernel
theorem dX9_beside_7 : decode cX9_beside 7 = .ok (.istore_n 3, 1) := by decide +kernel
theorem dX9_beside_8 : decode cX9_beside 8 = .ok (.iload_n 1, 1) := by decide +kernel
theorem dX9_beside_9 : decode cX9_beside 9 = .ok (.lookupswitch 93 #[(98, 80), (101, 43), (110, 68), (119, 56)], 43) := by decide +kernel
theorem dX9_beside_52 : decode cX9_beside 52 = .ok (.iload_n 2, 1) := by decide +kernel
theorem dX9_beside_53 : decode cX9_beside 53 = .ok (.iconst 4, 1) := by decide +kernel
theorem dX9_beside_54 : decode cX9_beside 54 = .ok (.if_icmp .ge 9, 3) := by decide +kernel
theorem dX9_beside_57 : decode cX9_beside 57 = .ok (.iload_n 0, 1) := by decide +kernel
theorem dX9_beside_58 : decode cX9_beside 58 = .ok (.iconst 1, 1) := by decide +kernel
theorem dX9_beside_59 : decode cX9_beside 59 = .ok (.iadd, 1) := by decide +kernel
theorem dX9_beside_60 : decode cX9_beside 60 = .ok (.goto 4, 3) := by decide +kernel
theorem dX9_beside_63 : decode cX9_beside 63 = .ok (.iconst (-1), 1) := by decide +kernel
theorem dX9_beside_64 : decode cX9_beside 64 = .ok (.ireturn, 1) := by decide +kernel
theorem dX9_beside_65 : decode cX9_beside 65 = .ok (.iload_n 2, 1) := by decide +kernel
theorem dX9_beside_66 : decode cX9_beside 66 = .ok (.ifCond .le 9, 3) := by decide +kernel
theorem dX9_beside_69 : decode cX9_beside 69 = .ok (.iload_n 0, 1) := by decide +kernel
theorem dX9_beside_70 : decode cX9_beside 70 = .ok (.iconst 1, 1) := by decide +kernel
theorem dX9_beside_71 : decode cX9_beside 71 = .ok (.isub, 1) := by decide +kernel
theorem dX9_beside_72 : decode cX9_beside 72 = .ok (.goto 4, 3) := by decide +kernel
theorem dX9_beside_75 : decode cX9_beside 75 = .ok (.iconst (-1), 1) := by decide +kernel
theorem dX9_beside_76 : decode cX9_beside 76 = .ok (.ireturn, 1) := by decide +kernel
theorem dX9_beside_77 : decode cX9_beside 77 = .ok (.iload_n 3, 1) := by decide +kernel
theorem dX9_beside_78 : decode cX9_beside 78 = .ok (.ifCond .le 9, 3) := by decide +kernel
theorem dX9_beside_81 : decode cX9_beside 81 = .ok (.iload_n 0, 1) := by decide +kernel
theorem dX9_beside_82 : decode cX9_beside 82 = .ok (.iconst 5, 1) := by decide +kernel
theorem dX9_beside_83 : decode cX9_beside 83 = .ok (.isub, 1) := by decide +kernel
theorem dX9_beside_84 : decode cX9_beside 84 = .ok (.goto 4, 3) := by decide +kernel
theorem dX9_beside_87 : decode cX9_beside 87 = .ok (.iconst (-1), 1) := by decide +kernel
theorem dX9_beside_88 : decode cX9_beside 88 = .ok (.ireturn, 1) := by decide +kernel
theorem dX9_beside_89 : decode cX9_beside 89 = .ok (.iload_n 3, 1) := by decide +kernel
theorem dX9_beside_90 : decode cX9_beside 90 = .ok (.iconst 2, 1) := by decide +kernel
theorem dX9_beside_91 : decode cX9_beside 91 = .ok (.if_icmp .ge 9, 3) := by decide +kernel
theorem dX9_beside_94 : decode cX9_beside 94 = .ok (.iload_n 0, 1) := by decide +kernel
theorem dX9_beside_95 : decode cX9_beside 95 = .ok (.iconst 5, 1) := by decide +kernel
theorem dX9_beside_96 : decode cX9_beside 96 = .ok (.iadd, 1) := by decide +kernel
theorem dX9_beside_97 : decode cX9_beside 97 = .ok (.goto 4, 3) := by decide +kernel
theorem dX9_beside_100 : decode cX9_beside 100 = .ok (.iconst (-1), 1) := by decide +kernel
theorem dX9_beside_101 : decode cX9_beside 101 = .ok (.ireturn, 1) := by decide +kernel
theorem dX9_beside_102 : decode cX9_beside 102 = .ok (.iconst (-1), 1) := by decide +kernel
theorem dX9_beside_103 : decode cX9_beside 103 = .ok (.ireturn, 1) := by decide +kernel
theorem dX9_isSort_0 : decode cX9_isSort 0 = .ok (.iload_n 0, 1) := by decide +kernel
theorem dX9_isSort_1 : decode cX9_isSort 1 = .ok (.bipush 103, 2) := by decide +kernel
theorem dX9_isSort_3 : decode cX9_isSort 3 = .ok (.if_icmp .eq 27, 3) := by decide +kernel
theorem dX9_isSort_6 : decode cX9_isSort 6 = .ok (.iload_n 0, 1) := by decide +kernel
theorem dX9_isSort_7 : decode cX9_isSort 7 = .ok (.bipush 115, 2) := by decide +kernel
theorem dX9_isSort_9 : decode cX9_isSort 9 = .ok (.if_icmp .eq 21, 3) := by decide +kernel
theorem dX9_isSort_12 : decode cX9_isSort 12 = .ok (.iload_n 0, 1) := by decide +kernel
theorem dX9_isSort_13 : decode cX9_isSort 13 = .ok (.bipush 100, 2) := by decide +kernel
theorem dX9_isSort_15 : decode cX9_isSort 15 = .ok (.if_icmp .eq 15, 3) := by decide +kernel
theorem dX9_isSort_18 : decode cX9_isSort 18 = .ok (.iload_n 0, 1) := by decide +kernel
theorem dX9_isSort_19 : decode cX9_isSort 19 = .ok (.bipush 99, 2) := by decide +kernel
theorem dX9_isSort_21 : decode cX9_isSort 21 = .ok (.if_icmp .eq 9, 3) := by decide +kernel
theorem dX9_isSort_24 : decode cX9_isSort 24 = .ok (.iload_n 0, 1) := by decide +kernel
theorem dX9_isSort_25 : decode cX9_isSort 25 = .ok (.bipush 114, 2) := by decide +kernel
theorem dX9_isSort_27 : decode cX9_isSort 27 = .ok (.if_icmp .ne 7, 3) := by decide +kernel
theorem dX9_isSort_30 : decode cX9_isSort 30 = .ok (.iconst 1, 1) := by decide +kernel
theorem dX9_isSort_31 : decode cX9_isSort 31 = .ok (.goto 4, 3) := by decide +kernel
theorem dX9_isSort_34 : decode cX9_isSort 34 = .ok (.iconst 0, 1) := by decide +kernel
theorem dX9_isSort_35 : decode cX9_isSort 35 = .ok (.ireturn, 1) := by decide +kernel
theorem dX9_newPass_0 : decode cX9_newPass 0 = .ok (.iload_n 0, 1) := by decide +kernel
theorem dX9_newPass_1 : decode cX9_newPass 1 = .ok (.lookupswitch 83 #[(99, 63), (100, 53), (114, 73), (115, 43)], 43) := by decide +kernel
theorem dX9_newPass_44 : decode cX9_newPass 44 = .ok (.new 101, 3) := by decide +kernel
theorem dX9_newPass_47 : decode cX9_newPass 47 = .ok (.dup, 1) := by decide +kernel
theorem dX9_newPass_48 : decode cX9_newPass 48 = .ok (.iload_n 1, 1) := by decide +kernel
theorem dX9_newPass_49 : decode cX9_newPass 49 = .ok (.aload_n 2, 1) := by decide +kernel
theorem dX9_newPass_50 : decode cX9_newPass 50 = .ok (.invokespecial 103, 3) := by decide +kernel
theorem dX9_newPass_53 : decode cX9_newPass 53 = .ok (.areturn, 1) := by decide +kernel
theorem dX9_newPass_54 : decode cX9_newPass 54 = .ok (.new 106, 3) := by decide +kernel
theorem dX9_newPass_57 : decode cX9_newPass 57 = .ok (.dup, 1) := by decide +kernel
theorem dX9_newPass_58 : decode cX9_newPass 58 = .ok (.iload_n 1, 1) := by decide +kernel
theorem dX9_newPass_59 : decode cX9_newPass 59 = .ok (.aload_n 2, 1) := by decide +kernel
theorem dX9_newPass_60 : decode cX9_newPass 60 = .ok (.invokespecial 108, 3) := by decide +kernel
theorem dX9_newPass_63 : decode cX9_newPass 63 = .ok (.areturn, 1) := by decide +kernel
theorem dX9_newPass_64 : decode cX9_newPass 64 = .ok (.new 109, 3) := by decide +kernel
theorem dX9_newPass_67 : decode cX9_newPass 67 = .ok (.dup, 1) := by decide +kernel
theorem dX9_newPass_68 : decode cX9_newPass 68 = .ok (.iload_n 1, 1) := by decide +kernel
theorem dX9_newPass_69 : decode cX9_newPass 69 = .ok (.aload_n 2, 1) := by decide +kernel
theorem dX9_newPass_70 : decode cX9_newPass 70 = .ok (.invokespecial 111, 3) := by decide +kernel
theorem dX9_newPass_73 : decode cX9_newPass 73 = .ok (.areturn, 1) := by decide +kernel
theorem dX9_newPass_74 : decode cX9_newPass 74 = .ok (.new 112, 3) := by decide +kernel
theorem dX9_newPass_77 : decode cX9_newPass 77 = .ok (.dup, 1) := by decide +kernel
theorem dX9_newPass_78 : decode cX9_newPass 78 = .ok (.iload_n 1, 1) := by decide +kernel
theorem dX9_newPass_79 : decode cX9_newPass 79 = .ok (.aload_n 2, 1) := by decide +kernel
theorem dX9_newPass_80 : decode cX9_newPass 80 = .ok (.invokespecial 114, 3) := by decide +kernel
theorem dX9_newPass_83 : decode cX9_newPass 83 = .ok (.areturn, 1) := by decide +kernel
theorem dX9_newPass_84 : decode cX9_newPass 84 = .ok (.new 115, 3) := by decide +kernel
theorem dX9_newPass_87 : decode cX9_newPass 87 = .ok (.dup, 1) := by decide +kernel
theorem dX9_newPass_88 : decode cX9_newPass 88 = .ok (.iload_n 1, 1) := by decide +kernel
theorem dX9_newPass_89 : decode cX9_newPass 89 = .ok (.aload_n 2, 1) := by decide +kernel
theorem dX9_newPass_90 : decode cX9_newPass 90 = .ok (.invokespecial 117, 3) := by decide +kernel
theorem dX9_newPass_93 : decode cX9_newPass 93 = .ok (.areturn, 1) := by decide +kernel
theorem dX9_next_0 : decode cX9_next 0 = .ok (.aload_n 0, 1) := by decide +kernel
theorem dX9_next_1 : decode cX9_next 1 = .ok (.getfield 22, 3) := by decide +kernel
theorem dX9_next_4 : decode cX9_next 4 = .ok (.aload_n 0, 1) := by decide +kernel
theorem dX9_next_5 : decode cX9_next 5 = .ok (.getfield 18, 3) := by decide +kernel
theorem dX9_next_8 : decode cX9_next 8 = .ok (.if_icmp .ge 15, 3) := by decide +kernel
theorem dX9_next_11 : decode cX9_next 11 = .ok (.aload_n 0, 1) := by decide +kernel
theorem dX9_next_12 : decode cX9_next 12 = .ok (.getfield 9, 3) := by decide +kernel
theorem dX9_next_15 : decode cX9_next 15 = .ok (.aload_n 0, 1) := by decide +kernel
theorem dX9_next_16 : decode cX9_next 16 = .ok (.getfield 22, 3) := by decide +kernel
theorem dX9_next_19 : decode cX9_next 19 = .ok (.iaload, 1) := by decide +kernel
theorem dX9_next_20 : decode cX9_next 20 = .ok (.goto 4, 3) := by decide +kernel
theorem dX9_next_23 : decode cX9_next 23 = .ok (.iconst (-1), 1) := by decide +kernel
theorem dX9_next_24 : decode cX9_next 24 = .ok (.ireturn, 1) := by decide +kernel
theorem dX9_readSign_0 : decode cX9_readSign 0 = .ok (.aload_n 0, 1) := by decide +kernel
theorem dX9_readSign_1 : decode cX9_readSign 1 = .ok (.invokevirtual 60, 3) := by decide +kernel
theorem dX9_readSign_4 : decode cX9_readSign 4 = .ok (.iload_n 1, 1) := by decide +kernel
theorem dX9_readSign_5 : decode cX9_readSign 5 = .ok (.if_icmp .eq 9, 3) := by decide +kernel
theorem dX9_readSign_8 : decode cX9_readSign 8 = .ok (.aload_n 0, 1) := by decide +kernel
theorem dX9_readSign_9 : decode cX9_readSign 9 = .ok (.iconst 1, 1) := by decide +kernel
theorem dX9_readSign_10 : decode cX9_readSign 10 = .ok (.invokevirtual 64, 3) := by decide +kernel
theorem dX9_readSign_13 : decode cX9_readSign 13 = .ok (.ireturn, 1) := by decide +kernel
theorem dX9_readSign_14 : decode cX9_readSign 14 = .ok (.aload_n 0, 1) := by decide +kernel
theorem dX9_readSign_15 : decode cX9_readSign 15 = .ok (.dup, 1) := by decide +kernel
theorem dX9_readSign_16 : decode cX9_readSign 16 = .ok (.getfield 22, 3) := by decide +kernel
theorem dX9_readSign_19 : decode cX9_readSign 19 = .ok (.iconst 1, 1) := by decide +kernel
theorem dX9_readSign_20 : decode cX9_readSign 20 = .ok (.iadd, 1) := by decide +kernel
theorem dX9_readSign_21 : decode cX9_readSign 21 = .ok (.putfield 22, 3) := by decide +kernel
theorem dX9_readSign_24 : decode cX9_readSign 24 = .ok (.iconst 1, 1) := by decide +kernel
theorem dX9_readSign_25 : decode cX9_readSign 25 = .ok (.ireturn, 1) := by decide +kernel
theorem dX9_readNumber_0 : decode cX9_readNumber 0 = .ok (.iconst 0, 1) := by decide +kernel
theorem dX9_readNumber_1 : decode cX9_readNumber 1 = .ok (.istore_n 2, 1) := by decide +kernel
theorem dX9_readNumber_2 : decode cX9_readNumber 2 = .ok (.iconst 0, 1) := by decide +kernel
theorem dX9_readNumber_3 : decode cX9_readNumber 3 = .ok (.istore_n 3, 1) := by decide +kernel
theorem dX9_readNumber_4 : decode cX9_readNumber 4 = .ok (.iload_n 2, 1) := by decide +kernel
theorem dX9_readNumber_5 : decode cX9_readNumber 5 = .ok (.iconst 3, 1) := by decide +kernel
theorem dX9_readNumber_6 : decode cX9_readNumber 6 = .ok (.if_icmp .ge 42, 3) := by decide +kernel
theorem dX9_readNumber_9 : decode cX9_readNumber 9 = .ok (.aload_n 0, 1) := by decide +kernel
theorem dX9_readNumber_10 : decode cX9_readNumber 10 = .ok (.aload_n 0, 1) := by decide +kernel
theorem dX9_readNumber_11 : decode cX9_readNumber 11 = .ok (.getfield 22, 3) := by decide +kernel
theorem dX9_readNumber_14 : decode cX9_readNumber 14 = .ok (.iload_n 2, 1) := by decide +kernel
theorem dX9_readNumber_15 : decode cX9_readNumber 15 = .ok (.iadd, 1) := by decide +kernel
theorem dX9_readNumber_16 : decode cX9_readNumber 16 = .ok (.invokevirtual 118, 3) := by decide +kernel
theorem dX9_readNumber_19 : decode cX9_readNumber 19 = .ok (.ifCond .eq 29, 3) := by decide +kernel
theorem dX9_readNumber_22 : decode cX9_readNumber 22 = .ok (.iload_n 3, 1) := by decide +kernel
theorem dX9_readNumber_23 : decode cX9_readNumber 23 = .ok (.bipush 10, 2) := by decide +kernel
theorem dX9_readNumber_25 : decode cX9_readNumber 25 = .ok (.imul, 1) := by decide +kernel
theorem dX9_readNumber_26 : decode cX9_readNumber 26 = .ok (.aload_n 0, 1) := by decide +kernel
theorem dX9_readNumber_27 : decode cX9_readNumber 27 = .ok (.getfield 9, 3) := by decide +kernel
theorem dX9_readNumber_30 : decode cX9_readNumber 30 = .ok (.aload_n 0, 1) := by decide +kernel
theorem dX9_readNumber_31 : decode cX9_readNumber 31 = .ok (.getfield 22, 3) := by decide +kernel
theorem dX9_readNumber_34 : decode cX9_readNumber 34 = .ok (.iload_n 2, 1) := by decide +kernel
theorem dX9_readNumber_35 : decode cX9_readNumber 35 = .ok (.iadd, 1) := by decide +kernel
theorem dX9_readNumber_36 : decode cX9_readNumber 36 = .ok (.iaload, 1) := by decide +kernel
theorem dX9_readNumber_37 : decode cX9_readNumber 37 = .ok (.iadd, 1) := by decide +kernel
theorem dX9_readNumber_38 : decode cX9_readNumber 38 = .ok (.bipush 48, 2) := by decide +kernel
theorem dX9_readNumber_40 : decode cX9_readNumber 40 = .ok (.isub, 1) := by decide +kernel
theorem dX9_readNumber_41 : decode cX9_readNumber 41 = .ok (.istore_n 3, 1) := by decide +kernel
theorem dX9_readNumber_42 : decode cX9_readNumber 42 = .ok (.iinc 2 1, 3) := by decide +kernel
theorem dX9_readNumber_45 : decode cX9_readNumber 45 = .ok (.goto (-41), 3) := by decide +kernel
theorem dX9_readNumber_48 : decode cX9_readNumber 48 = .ok (.iload_n 2, 1) := by decide +kernel
theorem dX9_readNumber_49 : decode cX9_readNumber 49 = .ok (.ifCond .eq 8, 3) := by decide +kernel
theorem dX9_readNumber_52 : decode cX9_readNumber 52 = .ok (.iload_n 2, 1) := by decide +kernel
theorem dX9_readNumber_53 : decode cX9_readNumber 53 = .ok (.iconst 2, 1) := by decide +kernel
theorem dX9_readNumber_54 : decode cX9_readNumber 54 = .ok (.if_icmp .le 11, 3) := by decide +kernel
theorem dX9_readNumber_57 : decode cX9_readNumber 57 = .ok (.aload_n 0, 1) := by decide +kernel
theorem dX9_readNumber_58 : decode cX9_readNumber 58 = .ok (.iconst 1, 1) := by decide +kernel
theorem dX9_readNumber_59 : decode cX9_readNumber 59 = .ok (.invokevirtual 64, 3) := by decide +kernel
theorem dX9_readNumber_62 : decode cX9_readNumber 62 = .ok (.pop, 1) := by decide +kernel
theorem dX9_readNumber_63 : decode cX9_readNumber 63 = .ok (.iconst (-1), 1) := by decide +kernel
theorem dX9_readNumber_64 : decode cX9_readNumber 64 = .ok (.ireturn, 1) := by decide +kernel
theorem dX9_readNumber_65 : decode cX9_readNumber 65 = .ok (.iload_n 3, 1) := by decide +kernel
theorem dX9_readNumber_66 : decode cX9_readNumber 66 = .ok (.iload_n 1, 1) := by decide +kernel
theorem dX9_readNumber_67 : decode cX9_readNumber 67 = .ok (.if_icmp .le 11, 3) := by decide +kernel
theorem dX9_readNumber_70 : decode cX9_readNumber 70 = .ok (.aload_n 0, 1) := by decide +kernel
theorem dX9_readNumber_71 : decode cX9_readNumber 71 = .ok (.iconst 2, 1) := by decide +kernel
theorem dX9_readNumber_72 : decode cX9_readNumber 72 = .ok (.invokevirtual 64, 3) := by decide +kernel
theorem dX9_readNumber_75 : decode cX9_readNumber 75 = .ok (.pop, 1) := by decide +kernel
theorem dX9_readNumber_76 : decode cX9_readNumber 76 = .ok (.iconst (-1), 1) := by decide +kernel
theorem dX9_readNumber_77 : decode cX9_readNumber 77 = .ok (.ireturn, 1) := by decide +kernel
theorem dX9_readNumber_78 : decode cX9_readNumber 78 = .ok (.aload_n 0, 1) := by decide +kernel
theorem dX9_readNumber_79 : decode cX9_readNumber 79 = .ok (.dup, 1) := by decide +kernel
theorem dX9_readNumber_80 : decode cX9_readNumber 80 = .ok (.getfield 22, 3) := by decide +kernel
theorem dX9_readNumber_83 : decode cX9_readNumber 83 = .ok (.iload_n 2, 1) := by decide +kernel
theorem dX9_readNumber_84 : decode cX9_readNumber 84 = .ok (.iadd, 1) := by decide +kernel
theorem dX9_readNumber_85 : decode cX9_readNumber 85 = .ok (.putfield 22, 3) := by decide +kernel
theorem dX9_readNumber_88 : decode cX9_readNumber 88 = .ok (.iload_n 3, 1) := by decide +kernel
theorem dX9_readNumber_89 : decode cX9_readNumber 89 = .ok (.ireturn, 1) := by decide +kernel
theorem dX9_isFigure_0 : decode cX9_isFigure 0 = .ok (.iload_n 1, 1) := by decide +kernel
theorem dX9_isFigure_1 : decode cX9_isFigure 1 = .ok (.aload_n 0, 1) := by decide +kernel
theorem dX9_isFigure_2 : decode cX9_isFigure 2 = .ok (.getfield 18, 3) := by decide +kernel
theorem dX9_isFigure_5 : decode cX9_isFigure 5 = .ok (.if_icmp .ge 29, 3) := by decide +kernel
theorem dX9_isFigure_8 : decode cX9_isFigure 8 = .ok (.aload_n 0, 1) := by decide +kernel
theorem dX9_isFigure_9 : decode cX9_isFigure 9 = .ok (.getfield 9, 3) := by decide +kernel
theorem dX9_isFigure_12 : decode cX9_isFigure 12 = .ok (.iload_n 1, 1) := by decide +kernel
theorem dX9_isFigure_13 : decode cX9_isFigure 13 = .ok (.iaload, 1) := by decide +kernel
theorem dX9_isFigure_14 : decode cX9_isFigure 14 = .ok (.bipush 48, 2) := by decide +kernel
theorem dX9_isFigure_16 : decode cX9_isFigure 16 = .ok (.if_icmp .lt 18, 3) := by decide +kernel
theorem dX9_isFigure_19 : decode cX9_isFigure 19 = .ok (.aload_n 0, 1) := by decide +kernel
theorem dX9_isFigure_20 : decode cX9_isFigure 20 = .ok (.getfield 9, 3) := by decide +kernel
theorem dX9_isFigure_23 : decode cX9_isFigure 23 = .ok (.iload_n 1, 1) := by decide +kernel
theorem dX9_isFigure_24 : decode cX9_isFigure 24 = .ok (.iaload, 1) := by decide +kernel
theorem dX9_isFigure_25 : decode cX9_isFigure 25 = .ok (.bipush 57, 2) := by decide +kernel
theorem dX9_isFigure_27 : decode cX9_isFigure 27 = .ok (.if_icmp .gt 7, 3) := by decide +kernel
theorem dX9_isFigure_30 : decode cX9_isFigure 30 = .ok (.iconst 1, 1) := by decide +kernel
theorem dX9_isFigure_31 : decode cX9_isFigure 31 = .ok (.goto 4, 3) := by decide +kernel
theorem dX9_isFigure_34 : decode cX9_isFigure 34 = .ok (.iconst 0, 1) := by decide +kernel
theorem dX9_isFigure_35 : decode cX9_isFigure 35 = .ok (.ireturn, 1) := by decide +kernel
theorem dX9_refuse_0 : decode cX9_refuse 0 = .ok (.aload_n 0, 1) := by decide +kernel
theorem dX9_refuse_1 : decode cX9_refuse 1 = .ok (.iload_n 1, 1) := by decide +kernel
theorem dX9_refuse_2 : decode cX9_refuse 2 = .ok (.putfield 121, 3) := by decide +kernel
theorem dX9_refuse_5 : decode cX9_refuse 5 = .ok (.iconst 0, 1) := by decide +kernel
theorem dX9_refuse_6 : decode cX9_refuse 6 = .ok (.ireturn, 1) := by decide +kernel
theorem dX10_init_0 : decode cX10_init 0 = .ok (.aload_n 0, 1) := by decide +kernel
theorem dX10_init_1 : decode cX10_init 1 = .ok (.invokespecial 3, 3) := by decide +kernel
theorem dX10_init_4 : decode cX10_init 4 = .ok (.aload_n 0, 1) := by decide +kernel
theorem dX10_init_5 : decode cX10_init 5 = .ok (.bipush 16, 2) := by decide +kernel
theorem dX10_init_7 : decode cX10_init 7 = .ok (.newarray .int, 2) := by decide +kernel
theorem dX10_init_9 : decode cX10_init 9 = .ok (.putfield 9, 3) := by decide +kernel
theorem dX10_init_12 : decode cX10_init 12 = .ok (.return_, 1) := by decide +kernel
theorem dX10_leave_0 : decode cX10_leave 0 = .ok (.aload_n 0, 1) := by decide +kernel
theorem dX10_leave_1 : decode cX10_leave 1 = .ok (.getfield 15, 3) := by decide +kernel
theorem dX10_leave_4 : decode cX10_leave 4 = .ok (.bipush 16, 2) := by decide +kernel
theorem dX10_leave_6 : decode cX10_leave 6 = .ok (.if_icmp .ge 23, 3) := by decide +kernel
theorem dX10_leave_9 : decode cX10_leave 9 = .ok (.aload_n 0, 1) := by decide +kernel
theorem dX10_leave_10 : decode cX10_leave 10 = .ok (.getfield 9, 3) := by decide +kernel
theorem dX10_leave_13 : decode cX10_leave 13 = .ok (.aload_n 0, 1) := by decide +kernel
theorem dX10_leave_14 : decode cX10_leave 14 = .ok (.getfield 15, 3) := by decide +kernel
theorem dX10_leave_17 : decode cX10_leave 17 = .ok (.iload_n 1, 1) := by decide +kernel
theorem dX10_leave_18 : decode cX10_leave 18 = .ok (.iastore, 1) := by decide +kernel
theorem dX10_leave_19 : decode cX10_leave 19 = .ok (.aload_n 0, 1) := by decide +kernel
theorem dX10_leave_20 : decode cX10_leave 20 = .ok (.dup, 1) := by decide +kernel
theorem dX10_leave_21 : decode cX10_leave 21 = .ok (.getfield 15, 3) := by decide +kernel
theorem dX10_leave_24 : decode cX10_leave 24 = .ok (.iconst 1, 1) := by decide +kernel
theorem dX10_leave_25 : decode cX10_leave 25 = .ok (.iadd, 1) := by decide +kernel
theorem dX10_leave_26 : decode cX10_leave 26 = .ok (.putfield 15, 3) := by decide +kernel
theorem dX10_leave_29 : decode cX10_leave 29 = .ok (.return_, 1) := by decide +kernel
theorem dX11_init_0 : decode cX11_init 0 = .ok (.aload_n 0, 1) := by decide +kernel
theorem dX11_init_1 : decode cX11_init 1 = .ok (.invokespecial 1, 3) := by decide +kernel
theorem dX11_init_4 : decode cX11_init 4 = .ok (.aload_n 0, 1) := by decide +kernel
theorem dX11_init_5 : decode cX11_init 5 = .ok (.bipush 8, 2) := by decide +kernel
theorem dX11_init_7 : decode cX11_init 7 = .ok (.anewarray 9, 3) := by decide +kernel
theorem dX11_init_10 : decode cX11_init 10 = .ok (.putfield 11, 3) := by decide +kernel
theorem dX11_init_13 : decode cX11_init 13 = .ok (.aload_n 0, 1) := by decide +kernel
theorem dX11_init_14 : decode cX11_init 14 = .ok (.new 15, 3) := by decide +kernel
theorem dX11_init_17 : decode cX11_init 17 = .ok (.dup, 1) := by decide +kernel
theorem dX11_init_18 : decode cX11_init 18 = .ok (.invokespecial 17, 3) := by decide +kernel
theorem dX11_init_21 : decode cX11_init 21 = .ok (.putfield 18, 3) := by decide +kernel
theorem dX11_init_24 : decode cX11_init 24 = .ok (.aload_n 0, 1) := by decide +kernel
theorem dX11_init_25 : decode cX11_init 25 = .ok (.iconst 2, 1) := by decide +kernel
theorem dX11_init_26 : decode cX11_init 26 = .ok (.anewarray 22, 3) := by decide +kernel
theorem dX11_init_29 : decode cX11_init 29 = .ok (.putfield 24, 3) := by decide +kernel
theorem dX11_init_32 : decode cX11_init 32 = .ok (.aload_n 0, 1) := by decide +kernel
theorem dX11_init_33 : decode cX11_init 33 = .ok (.iconst 2, 1) := by decide +kernel
theorem dX11_init_34 : decode cX11_init 34 = .ok (.newarray .boolean, 2) := by decide +kernel
theorem dX11_init_36 : decode cX11_init 36 = .ok (.putfield 28, 3) := by decide +kernel
theorem dX11_init_39 : decode cX11_init 39 = .ok (.aload_n 0, 1) := by decide +kernel
theorem dX11_init_40 : decode cX11_init 40 = .ok (.bipush 24, 2) := by decide +kernel
theorem dX11_init_42 : decode cX11_init 42 = .ok (.anewarray 32, 3) := by decide +kernel
theorem dX11_init_45 : decode cX11_init 45 = .ok (.putfield 34, 3) := by decide +kernel
theorem dX11_init_48 : decode cX11_init 48 = .ok (.aload_n 0, 1) := by decide +kernel
theorem dX11_init_49 : decode cX11_init 49 = .ok (.new 32, 3) := by decide +kernel
theorem dX11_init_52 : decode cX11_init 52 = .ok (.dup, 1) := by decide +kernel
theorem dX11_init_53 : decode cX11_init 53 = .ok (.invokespecial 38, 3) := by decide +kernel
theorem dX11_init_56 : decode cX11_init 56 = .ok (.putfield 39, 3) := by decide +kernel
theorem dX11_init_59 : decode cX11_init 59 = .ok (.aload_n 0, 1) := by decide +kernel
theorem dX11_init_60 : decode cX11_init 60 = .ok (.new 43, 3) := by decide +kernel
theorem dX11_init_63 : decode cX11_init 63 = .ok (.dup, 1) := by decide +kernel
theorem dX11_init_64 : decode cX11_init 64 = .ok (.invokespecial 45, 3) := by decide +kernel
theorem dX11_init_67 : decode cX11_init 67 = .ok (.putfield 46, 3) := by decide +kernel
theorem dX11_init_70 : decode cX11_init 70 = .ok (.aload_n 0, 1) := by decide +kernel
theorem dX11_init_71 : decode cX11_init 71 = .ok (.iconst 4, 1) := by decide +kernel
theorem dX11_init_72 : decode cX11_init 72 = .ok (.newarray .int, 2) := by decide +kernel
theorem dX11_init_74 : decode cX11_init 74 = .ok (.putfield 50, 3) := by decide +kernel
theorem dX11_init_77 : decode cX11_init 77 = .ok (.aload_n 0, 1) := by decide +kernel
theorem dX11_init_78 : decode cX11_init 78 = .ok (.iconst 4, 1) := by decide +kernel
theorem dX11_init_79 : decode cX11_init 79 = .ok (.newarray .int, 2) := by decide +kernel
theorem dX11_init_81 : decode cX11_init 81 = .ok (.putfield 54, 3) := by decide +kernel
theorem dX11_init_84 : decode cX11_init 84 = .ok (.aload_n 0, 1) := by decide +kernel
theorem dX11_init_85 : decode cX11_init 85 = .ok (.new 22, 3) := by decide +kernel
theorem dX11_init_88 : decode cX11_init 88 = .ok (.dup, 1) := by decide +kernel
theorem dX11_init_89 : decode cX11_init 89 = .ok (.invokespecial 57, 3) := by decide +kernel
theorem dX11_init_92 : decode cX11_init 92 = .ok (.putfield 58, 3) := by decide +kernel
theorem dX11_init_95 : decode cX11_init 95 = .ok (.aload_n 0, 1) := by decide +kernel
theorem dX11_init_96 : decode cX11_init 96 = .ok (.new 22, 3) := by decide +kernel
theorem dX11_init_99 : decode cX11_init 99 = .ok (.dup, 1) := by decide +kernel
theorem dX11_init_100 : decode cX11_init 100 = .ok (.invokespecial 57, 3) := by decide +kernel
theorem dX11_init_103 : decode cX11_init 103 = .ok (.putfield 62, 3) := by decide +kernel
theorem dX11_init_106 : decode cX11_init 106 = .ok (.iconst 0, 1) := by decide +kernel
theorem dX11_init_107 : decode cX11_init 107 = .ok (.istore_n 1, 1) := by decide +kernel
theorem dX11_init_108 : decode cX11_init 108 = .ok (.iload_n 1, 1) := by decide +kernel
theorem dX11_init_109 : decode cX11_init 109 = .ok (.bipush 8, 2) := by decide +kernel
theorem dX11_init_111 : decode cX11_init 111 = .ok (.if_icmp .ge 22, 3) := by decide +kernel
theorem dX11_init_114 : decode cX11_init 114 = .ok (.aload_n 0, 1) := by decide +kernel
theorem dX11_init_115 : decode cX11_init 115 = .ok (.getfield 11, 3) := by decide +kernel
theorem dX11_init_118 : decode cX11_init 118 = .ok (.iload_n 1, 1) := by decide +kernel
theorem dX11_init_119 : decode cX11_init 119 = .ok (.new 9, 3) := by decide +kernel
theorem dX11_init_122 : decode cX11_init 122 = .ok (.dup, 1) := by decide +kernel
theorem dX11_init_123 : decode cX11_init 123 = .ok (.invokespecial 65, 3) := by decide +kernel
theorem dX11_init_126 : decode cX11_init 126 = .ok (.aastore, 1) := by decide +kernel
theorem dX11_init_127 : decode cX11_init 127 = .ok (.iinc 1 1, 3) := by decide +kernel
theorem dX11_init_130 : decode cX11_init 130 = .ok (.goto (-22), 3) := by decide +kernel
theorem dX11_init_133 : decode cX11_init 133 = .ok (.iconst 0, 1) := by decide +kernel
theorem dX11_init_134 : decode cX11_init 134 = .ok (.istore_n 1, 1) := by decide +kernel
theorem dX11_init_135 : decode cX11_init 135 = .ok (.iload_n 1, 1) := by decide +kernel
theorem dX11_init_136 : decode cX11_init 136 = .ok (.iconst 2, 1) := by decide +kernel
theorem dX11_init_137 : decode cX11_init 137 = .ok (.if_icmp .ge 22, 3) := by decide +kernel
theorem dX11_init_140 : decode cX11_init 140 = .ok (.aload_n 0, 1) := by decide +kernel
theorem dX11_init_141 : decode cX11_init 141 = .ok (.getfield 24, 3) := by decide +kernel
theorem dX11_init_144 : decode cX11_init 144 = .ok (.iload_n 1, 1) := by decide +kernel
theorem dX11_init_145 : decode cX11_init 145 = .ok (.new 22, 3) := by decide +kernel
theorem dX11_init_148 : decode cX11_init 148 = .ok (.dup, 1) := by decide +kernel
theorem dX11_init_149 : decode cX11_init 149 = .ok (.invokespecial 57, 3) := by decide +kernel
theorem dX11_init_152 : decode cX11_init 152 = .ok (.aastore, 1) := by decide +kernel
theorem dX11_init_153 : decode cX11_init 153 = .ok (.iinc 1 1, 3) := by decide +kernel
theorem dX11_init_156 : decode cX11_init 156 = .ok (.goto (-21), 3) := by decide +kernel
theorem dX11_init_159 : decode cX11_init 159 = .ok (.iconst 0, 1) := by decide +kernel
theorem dX11_init_160 : decode cX11_init 160 = .ok (.istore_n 1, 1) := by decide +kernel
theorem dX11_init_161 : decode cX11_init 161 = .ok (.iload_n 1, 1) := by decide +kernel
theorem dX11_init_162 : decode cX11_init 162 = .ok (.bipush 24, 2) := by decide +kernel
theorem dX11_init_164 : decode cX11_init 164 = .ok (.if_icmp .ge 22, 3) := by decide +kernel
theorem dX11_init_167 : decode cX11_init 167 = .ok (.aload_n 0, 1) := by decide +kernel
theorem dX11_init_168 : decode cX11_init 168 = .ok (.getfield 34, 3) := by decide +kernel
theorem dX11_init_171 : decode cX11_init 171 = .ok (.iload_n 1, 1) := by decide +kernel
theorem dX11_init_172 : decode cX11_init 172 = .ok (.new 32, 3) := by decide +kernel
theorem dX11_init_175 : decode cX11_init 175 = .ok (.dup, 1) := by decide +kernel
theorem dX11_init_176 : decode cX11_init 176 = .ok (.invokespecial 38, 3) := by decide +kernel
theorem dX11_init_179 : decode cX11_init 179 = .ok (.aastore, 1) := by decide +kernel
theorem dX11_init_180 : decode cX11_init 180 = .ok (.iinc 1 1, 3) := by decide +kernel
theorem dX11_init_183 : decode cX11_init 183 = .ok (.goto (-22), 3) := by decide +kernel
theorem dX11_init_186 : decode cX11_init 186 = .ok (.return_, 1) := by decide +kernel
theorem dX11_row_0 : decode cX11_row 0 = .ok (.iload_n 1, 1) := by decide +kernel
theorem dX11_row_1 : decode cX11_row 1 = .ok (.invokestatic 66, 3) := by decide +kernel
theorem dX11_row_4 : decode cX11_row 4 = .ok (.ifCond .eq 18, 3) := by decide +kernel
theorem dX11_row_7 : decode cX11_row 7 = .ok (.iload_n 2, 1) := by decide +kernel
theorem dX11_row_8 : decode cX11_row 8 = .ok (.iconst 0, 1) := by decide +kernel
theorem dX11_row_9 : decode cX11_row 9 = .ok (.iconst 2, 1) := by decide +kernel
theorem dX11_row_10 : decode cX11_row 10 = .ok (.invokestatic 70, 3) := by decide +kernel
theorem dX11_row_13 : decode cX11_row 13 = .ok (.ifCond .eq 9, 3) := by decide +kernel
theorem dX11_row_16 : decode cX11_row 16 = .ok (.iload_n 3, 1) := by decide +kernel
theorem dX11_row_17 : decode cX11_row 17 = .ok (.bipush 40, 2) := by decide +kernel
theorem dX11_row_19 : decode cX11_row 19 = .ok (.if_icmp .le 6, 3) := by decide +kernel
theorem dX11_row_22 : decode cX11_row 22 = .ok (.ldc 74, 2) := by decide +kernel
theorem dX11_row_24 : decode cX11_row 24 = .ok (.ireturn, 1) := by decide +kernel
theorem dX11_row_25 : decode cX11_row 25 = .ok (.iload_n 3, 1) := by decide +kernel
theorem dX11_row_26 : decode cX11_row 26 = .ok (.ifCond .ge 9, 3) := by decide +kernel
theorem dX11_row_29 : decode cX11_row 29 = .ok (.aload_n 0, 1) := by decide +kernel
theorem dX11_row_30 : decode cX11_row 30 = .ok (.iconst 4, 1) := by decide +kernel
theorem dX11_row_31 : decode cX11_row 31 = .ok (.invokevirtual 75, 3) := by decide +kernel
theorem dX11_row_34 : decode cX11_row 34 = .ok (.ireturn, 1) := by decide +kernel
theorem dX11_row_35 : decode cX11_row 35 = .ok (.aload_n 0, 1) := by decide +kernel
theorem dX11_row_36 : decode cX11_row 36 = .ok (.getfield 11, 3) := by decide +kernel
theorem dX11_row_39 : decode cX11_row 39 = .ok (.iload_n 1, 1) := by decide +kernel
theorem dX11_row_40 : decode cX11_row 40 = .ok (.aaload, 1) := by decide +kernel
theorem dX11_row_41 : decode cX11_row 41 = .ok (.iload_n 2, 1) := by decide +kernel
theorem dX11_row_42 : decode cX11_row 42 = .ok (.iload_n 3, 1) := by decide +kernel
theorem dX11_row_43 : decode cX11_row 43 = .ok (.invokevirtual 79, 3) := by decide +kernel
theorem dX11_row_46 : decode cX11_row 46 = .ok (.aload_n 0, 1) := by decide +kernel
theorem dX11_row_47 : decode cX11_row 47 = .ok (.iload_n 3, 1) := by decide +kernel
theorem dX11_row_48 : decode cX11_row 48 = .ok (.invokevirtual 83, 3) := by decide +kernel
theorem dX11_row_51 : decode cX11_row 51 = .ok (.ireturn, 1) := by decide +kernel
theorem dX11_set_0 : decode cX11_set 0 = .ok (.iload_n 1, 1) := by decide +kernel
theorem dX11_set_1 : decode cX11_set 1 = .ok (.invokestatic 66, 3) := by decide +kernel
theorem dX11_set_4 : decode cX11_set 4 = .ok (.ifCond .ne 6, 3) := by decide +kernel
theorem dX11_set_7 : decode cX11_set 7 = .ok (.ldc 74, 2) := by decide +kernel
theorem dX11_set_9 : decode cX11_set 9 = .ok (.ireturn, 1) := by decide +kernel
theorem dX11_set_10 : decode cX11_set 10 = .ok (.aload_n 0, 1) := by decide +kernel
theorem dX11_set_11 : decode cX11_set 11 = .ok (.getfield 11, 3) := by decide +kernel
theorem dX11_set_14 : decode cX11_set 14 = .ok (.iload_n 1, 1) := by decide +kernel
theorem dX11_set_15 : decode cX11_set 15 = .ok (.aaload, 1) := by decide +kernel
theorem dX11_set_16 : decode cX11_set 16 = .ok (.astore 4, 2) := by decide +kernel
theorem dX11_set_18 : decode cX11_set 18 = .ok (.aload 4, 2) := by decide +kernel
theorem dX11_set_20 : decode cX11_set 20 = .ok (.invokevirtual 86, 3) := by decide +kernel
theorem dX11_set_23 : decode cX11_set 23 = .ok (.ifCond .eq 9, 3) := by decide +kernel
theorem dX11_set_26 : decode cX11_set 26 = .ok (.aload_n 0, 1) := by decide +kernel
theorem dX11_set_27 : decode cX11_set 27 = .ok (.iconst 1, 1) := by decide +kernel
theorem dX11_set_28 : decode cX11_set 28 = .ok (.invokevirtual 75, 3) := by decide +kernel
theorem dX11_set_31 : decode cX11_set 31 = .ok (.ireturn, 1) := by decide +kernel
theorem dX11_set_32 : decode cX11_set 32 = .ok (.aload 4, 2) := by decide +kernel
theorem dX11_set_34 : decode cX11_set 34 = .ok (.iload_n 2, 1) := by decide +kernel
theorem dX11_set_35 : decode cX11_set 35 = .ok (.iconst 1, 1) := by decide +kernel
theorem dX11_set_36 : decode cX11_set 36 = .ok (.invokevirtual 90, 3) := by decide +kernel
theorem dX11_set_39 : decode cX11_set 39 = .ok (.ifCond .ne 9, 3) := by decide +kernel
theorem dX11_set_42 : decode cX11_set 42 = .ok (.aload_n 0, 1) := by decide +kernel
theorem dX11_set_43 : decode cX11_set 43 = .ok (.iconst 2, 1) := by decide +kernel
theorem dX11_set_44 : decode cX11_set 44 = .ok (.invokevirtual 75, 3) := by decide +kernel
theorem dX11_set_47 : decode cX11_set 47 = .ok (.ireturn, 1) := by decide +kernel
theorem dX11_set_48 : decode cX11_set 48 = .ok (.aload_n 0, 1) := by decide +kernel
theorem dX11_set_49 : decode cX11_set 49 = .ok (.aload 4, 2) := by decide +kernel
theorem dX11_set_51 : decode cX11_set 51 = .ok (.iload_n 2, 1) := by decide +kernel
theorem dX11_set_52 : decode cX11_set 52 = .ok (.iload_n 3, 1) := by decide +kernel
theorem dX11_set_53 : decode cX11_set 53 = .ok (.invokevirtual 94, 3) := by decide +kernel
theorem dX11_set_56 : decode cX11_set 56 = .ok (.invokevirtual 83, 3) := by decide +kernel
theorem dX11_set_59 : decode cX11_set 59 = .ok (.ireturn, 1) := by decide +kernel
theorem dX11_copy_0 : decode cX11_copy 0 = .ok (.iload_n 1, 1) := by decide +kernel
theorem dX11_copy_1 : decode cX11_copy 1 = .ok (.invokestatic 66, 3) := by decide +kernel
theorem dX11_copy_4 : decode cX11_copy 4 = .ok (.ifCond .eq 10, 3) := by decide +kernel
theorem dX11_copy_7 : decode cX11_copy 7 = .ok (.iload_n 3, 1) := by decide +kernel
theorem dX11_copy_8 : decode cX11_copy 8 = .ok (.invokestatic 66, 3) := by decide +kernel
theorem dX11_copy_11 : decode cX11_copy 11 = .ok (.ifCond .ne 6, 3) := by decide +kernel
theorem dX11_copy_14 : decode cX11_copy 14 = .ok (.ldc 74, 2) := by decide +kernel
theorem dX11_copy_16 : decode cX11_copy 16 = .ok (.ireturn, 1) := by decide +kernel
theorem dX11_copy_17 : decode cX11_copy 17 = .ok (.aload_n 0, 1) := by decide +kernel
theorem dX11_copy_18 : decode cX11_copy 18 = .ok (.getfield 11, 3) := by decide +kernel
theorem dX11_copy_21 : decode cX11_copy 21 = .ok (.iload_n 1, 1) := by decide +kernel
theorem dX11_copy_22 : decode cX11_copy 22 = .ok (.aaload, 1) := by decide +kernel
theorem dX11_copy_23 : decode cX11_copy 23 = .ok (.astore 6, 2) := by decide +kernel
theorem dX11_copy_25 : decode cX11_copy 25 = .ok (.aload_n 0, 1) := by decide +kernel
theorem dX11_copy_26 : decode cX11_copy 26 = .ok (.getfield 11, 3) := by decide +kernel
theorem dX11_copy_29 : decode cX11_copy 29 = .ok (.iload_n 3, 1) := by decide +kernel
theorem dX11_copy_30 : decode cX11_copy 30 = .ok (.aaload, 1) := by decide +kernel
theorem dX11_copy_31 : decode cX11_copy 31 = .ok (.astore 7, 2) := by decide +kernel
theorem dX11_copy_33 : decode cX11_copy 33 = .ok (.aload 6, 2) := by decide +kernel
theorem dX11_copy_35 : decode cX11_copy 35 = .ok (.invokevirtual 86, 3) := by decide +kernel
theorem dX11_copy_38 : decode cX11_copy 38 = .ok (.ifCond .ne 11, 3) := by decide +kernel
theorem dX11_copy_41 : decode cX11_copy 41 = .ok (.aload 7, 2) := by decide +kernel
theorem dX11_copy_43 : decode cX11_copy 43 = .ok (.invokevirtual 86, 3) := by decide +kernel
theorem dX11_copy_46 : decode cX11_copy 46 = .ok (.ifCond .eq 9, 3) := by decide +kernel
theorem dX11_copy_49 : decode cX11_copy 49 = .ok (.aload_n 0, 1) := by decide +kernel
theorem dX11_copy_50 : decode cX11_copy 50 = .ok (.iconst 1, 1) := by decide +kernel
theorem dX11_copy_51 : decode cX11_copy 51 = .ok (.invokevirtual 75, 3) := by decide +kernel
theorem dX11_copy_54 : decode cX11_copy 54 = .ok (.ireturn, 1) := by decide +kernel
theorem dX11_copy_55 : decode cX11_copy 55 = .ok (.aload 6, 2) := by decide +kernel
theorem dX11_copy_57 : decode cX11_copy 57 = .ok (.getfield 98, 3) := by decide +kernel
theorem dX11_copy_60 : decode cX11_copy 60 = .ok (.aload 7, 2) := by decide +kernel
theorem dX11_copy_62 : decode cX11_copy 62 = .ok (.getfield 98, 3) := by decide +kernel
theorem dX11_copy_65 : decode cX11_copy 65 = .ok (.if_icmp .eq 9, 3) := by decide +kernel
theorem dX11_copy_68 : decode cX11_copy 68 = .ok (.aload_n 0, 1) := by decide +kernel
theorem dX11_copy_69 : decode cX11_copy 69 = .ok (.iconst 5, 1) := by decide +kernel
theorem dX11_copy_70 : decode cX11_copy 70 = .ok (.invokevirtual 75, 3) := by decide +kernel
theorem dX11_copy_73 : decode cX11_copy 73 = .ok (.ireturn, 1) := by decide +kernel
theorem dX11_copy_74 : decode cX11_copy 74 = .ok (.aload 6, 2) := by decide +kernel
theorem dX11_copy_76 : decode cX11_copy 76 = .ok (.iload_n 2, 1) := by decide +kernel
theorem dX11_copy_77 : decode cX11_copy 77 = .ok (.iload 5, 2) := by decide +kernel
theorem dX11_copy_79 : decode cX11_copy 79 = .ok (.invokevirtual 90, 3) := by decide +kernel
theorem dX11_copy_82 : decode cX11_copy 82 = .ok (.ifCond .eq 15, 3) := by decide +kernel
theorem dX11_copy_85 : decode cX11_copy 85 = .ok (.aload 7, 2) := by decide +kernel
theorem dX11_copy_87 : decode cX11_copy 87 = .ok (.iload 4, 2) := by decide +kernel
theorem dX11_copy_89 : decode cX11_copy 89 = .ok (.iload 5, 2) := by decide +kernel
theorem dX11_copy_91 : decode cX11_copy 91 = .ok (.invokevirtual 90, 3) := by decide +kernel
theorem dX11_copy_94 : decode cX11_copy 94 = .ok (.ifCond .ne 9, 3) := by decide +kernel
theorem dX11_copy_97 : decode cX11_copy 97 = .ok (.aload_n 0, 1) := by decide +kernel
theorem dX11_copy_98 : decode cX11_copy 98 = .ok (.iconst 2, 1) := by decide +kernel
theorem dX11_copy_99 : decode cX11_copy 99 = .ok (.invokevirtual 75, 3) := by decide +kernel
theorem dX11_copy_102 : decode cX11_copy 102 = .ok (.ireturn, 1) := by decide +kernel
theorem dX11_copy_103 : decode cX11_copy 103 = .ok (.aload 6, 2) := by decide +kernel
theorem dX11_copy_105 : decode cX11_copy 105 = .ok (.getfield 102, 3) := by decide +kernel
theorem dX11_copy_108 : decode cX11_copy 108 = .ok (.iload_n 2, 1) := by decide +kernel
theorem dX11_copy_109 : decode cX11_copy 109 = .ok (.aload 7, 2) := by decide +kernel
theorem dX11_copy_111 : decode cX11_copy 111 = .ok (.getfield 102, 3) := by decide +kernel
theorem dX11_copy_114 : decode cX11_copy 114 = .ok (.iload 4, 2) := by decide +kernel
theorem dX11_copy_116 : decode cX11_copy 116 = .ok (.iload 5, 2) := by decide +kernel
theorem dX11_copy_118 : decode cX11_copy 118 = .ok (.invokestatic 105, 3) := by decide +kernel
theorem dX11_copy_121 : decode cX11_copy 121 = .ok (.aload_n 0, 1) := by decide +kernel
theorem dX11_copy_122 : decode cX11_copy 122 = .ok (.iload 5, 2) := by decide +kernel
theorem dX11_copy_124 : decode cX11_copy 124 = .ok (.invokevirtual 83, 3) := by decide +kernel
theorem dX11_copy_127 : decode cX11_copy 127 = .ok (.ireturn, 1) := by decide +kernel
theorem dX11_drop_0 : decode cX11_drop 0 = .ok (.iload_n 1, 1) := by decide +kernel
theorem dX11_drop_1 : decode cX11_drop 1 = .ok (.invokestatic 66, 3) := by decide +kernel
theorem dX11_drop_4 : decode cX11_drop 4 = .ok (.ifCond .ne 6, 3) := by decide +kernel
theorem dX11_drop_7 : decode cX11_drop 7 = .ok (.ldc 74, 2) := by decide +kernel
theorem dX11_drop_9 : decode cX11_drop 9 = .ok (.ireturn, 1) := by decide +kernel
theorem dX11_drop_10 : decode cX11_drop 10 = .ok (.aload_n 0, 1) := by decide +kernel
theorem dX11_drop_11 : decode cX11_drop 11 = .ok (.getfield 11, 3) := by decide +kernel
theorem dX11_drop_14 : decode cX11_drop 14 = .ok (.iload_n 1, 1) := by decide +kernel
theorem dX11_drop_15 : decode cX11_drop 15 = .ok (.aaload, 1) := by decide +kernel
theorem dX11_drop_16 : decode cX11_drop 16 = .ok (.astore_n 2, 1) := by decide +kernel
theorem dX11_drop_17 : decode cX11_drop 17 = .ok (.aload_n 2, 1) := by decide +kernel
theorem dX11_drop_18 : decode cX11_drop 18 = .ok (.invokevirtual 86, 3) := by decide +kernel
theorem dX11_drop_21 : decode cX11_drop 21 = .ok (.ifCond .eq 9, 3) := by decide +kernel
theorem dX11_drop_24 : decode cX11_drop 24 = .ok (.aload_n 0, 1) := by decide +kernel
theorem dX11_drop_25 : decode cX11_drop 25 = .ok (.iconst 1, 1) := by decide +kernel
theorem dX11_drop_26 : decode cX11_drop 26 = .ok (.invokevirtual 75, 3) := by decide +kernel
theorem dX11_drop_29 : decode cX11_drop 29 = .ok (.ireturn, 1) := by decide +kernel
theorem dX11_drop_30 : decode cX11_drop 30 = .ok (.aload_n 2, 1) := by decide +kernel
theorem dX11_drop_31 : decode cX11_drop 31 = .ok (.getfield 111, 3) := by decide +kernel
theorem dX11_drop_34 : decode cX11_drop 34 = .ok (.istore_n 3, 1) := by decide +kernel
theorem dX11_drop_35 : decode cX11_drop 35 = .ok (.aload_n 2, 1) := by decide +kernel
theorem dX11_drop_36 : decode cX11_drop 36 = .ok (.iconst (-1), 1) := by decide +kernel
theorem dX11_drop_37 : decode cX11_drop 37 = .ok (.putfield 111, 3) := by decide +kernel
theorem dX11_drop_40 : decode cX11_drop 40 = .ok (.aload_n 0, 1) := by decide +kernel
theorem dX11_drop_41 : decode cX11_drop 41 = .ok (.iload_n 3, 1) := by decide +kernel
theorem dX11_drop_42 : decode cX11_drop 42 = .ok (.invokevirtual 83, 3) := by decide +kernel
theorem dX11_drop_45 : decode cX11_drop 45 = .ok (.ireturn, 1) := by decide +kernel
theorem dX11_feed_0 : decode cX11_feed 0 = .ok (.iload_n 1, 1) := by decide +kernel
theorem dX11_feed_1 : decode cX11_feed 1 = .ok (.iconst 0, 1) := by decide +kernel
theorem dX11_feed_2 : decode cX11_feed 2 = .ok (.sipush 255, 3) := by decide +kernel
theorem dX11_feed_5 : decode cX11_feed 5 = .ok (.invokestatic 70, 3) := by decide +kernel
theorem dX11_feed_8 : decode cX11_feed 8 = .ok (.ifCond .ne 6, 3) := by decide +kernel
theorem dX11_feed_11 : decode cX11_feed 11 = .ok (.ldc 74, 2) := by decide +kernel
theorem dX11_feed_13 : decode cX11_feed 13 = .ok (.ireturn, 1) := by decide +kernel
theorem dX11_feed_14 : decode cX11_feed 14 = .ok (.aload_n 0, 1) := by decide +kernel
theorem dX11_feed_15 : decode cX11_feed 15 = .ok (.getfield 18, 3) := by decide +kernel
theorem dX11_feed_18 : decode cX11_feed 18 = .ok (.iload_n 1, 1) := by decide +kernel
theorem dX11_feed_19 : decode cX11_feed 19 = .ok (.invokevirtual 114, 3) := by decide +kernel
theorem dX11_feed_22 : decode cX11_feed 22 = .ok (.ifCond .eq 13, 3) := by decide +kernel
theorem dX11_feed_25 : decode cX11_feed 25 = .ok (.aload_n 0, 1) := by decide +kernel
theorem dX11_feed_26 : decode cX11_feed 26 = .ok (.getfield 18, 3) := by decide +kernel
theorem dX11_feed_29 : decode cX11_feed 29 = .ok (.getfield 117, 3) := by decide +kernel
theorem dX11_feed_32 : decode cX11_feed 32 = .ok (.goto 5, 3) := by decide +kernel
theorem dX11_feed_35 : decode cX11_feed 35 = .ok (.ldc 118, 2) := by decide +kernel
theorem dX11_feed_37 : decode cX11_feed 37 = .ok (.ireturn, 1) := by decide +kernel
theorem dX11_table_0 : decode cX11_table 0 = .ok (.aload_n 0, 1) := by decide +kernel
theorem dX11_table_1 : decode cX11_table 1 = .ok (.getfield 18, 3) := by decide +kernel
theorem dX11_table_4 : decode cX11_table 4 = .ok (.aload_n 0, 1) := by decide +kernel
theorem dX11_table_5 : decode cX11_table 5 = .ok (.getfield 62, 3) := by decide +kernel
theorem dX11_table_8 : decode cX11_table 8 = .ok (.invokevirtual 119, 3) := by decide +kernel
theorem dX11_table_11 : decode cX11_table 11 = .ok (.istore_n 1, 1) := by decide +kernel
theorem dX11_table_12 : decode cX11_table 12 = .ok (.aload_n 0, 1) := by decide +kernel
theorem dX11_table_13 : decode cX11_table 13 = .ok (.getfield 18, 3) := by decide +kernel
theorem dX11_table_16 : decode cX11_table 16 = .ok (.iconst 0, 1) := by decide +kernel
theorem dX11_table_17 : decode cX11_table 17 = .ok (.putfield 117, 3) := by decide +kernel
theorem dX11_table_20 : decode cX11_table 20 = .ok (.iload_n 1, 1) := by decide +kernel
theorem dX11_table_21 : decode cX11_table 21 = .ok (.ifCond .ne 25, 3) := by decide +kernel
theorem dX11_table_24 : decode cX11_table 24 = .ok (.aload_n 0, 1) := by decide +kernel
theorem dX11_table_25 : decode cX11_table 25 = .ok (.aload_n 0, 1) := by decide +kernel
theorem dX11_table_26 : decode cX11_table 26 = .ok (.getfield 18, 3) := by decide +kernel
theorem dX11_table_29 : decode cX11_table 29 = .ok (.getfield 123, 3) := by decide +kernel
theorem dX11_table_32 : decode cX11_table 32 = .ok (.putfield 126, 3) := by decide +kernel
theorem dX11_table_35 : decode cX11_table 35 = .ok (.ldc 129, 2) := by decide +kernel
theorem dX11_table_37 : decode cX11_table 37 = .ok (.aload_n 0, 1) := by decide +kernel
theorem dX11_table_38 : decode cX11_table 38 = .ok (.getfield 18, 3) := by decide +kernel
theorem dX11_table_41 : decode cX11_table 41 = .ok (.getfield 130, 3) := by decide +kernel
theorem dX11_table_44 : decode cX11_table 44 = .ok (.isub, 1) := by decide +kernel
theorem dX11_table_45 : decode cX11_table 45 = .ok (.ireturn, 1) := by decide +kernel
theorem dX11_table_46 : decode cX11_table 46 = .ok (.aload_n 0, 1) := by decide +kernel
theorem dX11_table_47 : decode cX11_table 47 = .ok (.getfield 58, 3) := by decide +kernel
theorem dX11_table_50 : decode cX11_table 50 = .ok (.astore_n 2, 1) := by decide +kernel
theorem dX11_table_51 : decode cX11_table 51 = .ok (.aload_n 0, 1) := by decide +kernel
theorem dX11_table_52 : decode cX11_table 52 = .ok (.aload_n 0, 1) := by decide +kernel
theorem dX11_table_53 : decode cX11_table 53 = .ok (.getfield 62, 3) := by decide +kernel
theorem dX11_table_56 : decode cX11_table 56 = .ok (.putfield 58, 3) := by decide +kernel
theorem dX11_table_59 : decode cX11_table 59 = .ok (.aload_n 0, 1) := by decide +kernel
theorem dX11_table_60 : decode cX11_table 60 = .ok (.aload_n 2, 1) := by decide +kernel
theorem dX11_table_61 : decode cX11_table 61 = .ok (.putfield 62, 3) := by decide +kernel
theorem dX11_table_64 : decode cX11_table 64 = .ok (.aload_n 0, 1) := by decide +kernel
theorem dX11_table_65 : decode cX11_table 65 = .ok (.iconst 1, 1) := by decide +kernel
theorem dX11_table_66 : decode cX11_table 66 = .ok (.putfield 133, 3) := by decide +kernel
theorem dX11_table_69 : decode cX11_table 69 = .ok (.aload_n 0, 1) := by decide +kernel
theorem dX11_table_70 : decode cX11_table 70 = .ok (.invokevirtual 137, 3) := by decide +kernel
theorem dX11_table_73 : decode cX11_table 73 = .ok (.aload_n 0, 1) := by decide +kernel
theorem dX11_table_74 : decode cX11_table 74 = .ok (.getfield 58, 3) := by decide +kernel
theorem dX11_table_77 : decode cX11_table 77 = .ok (.getfield 140, 3) := by decide +kernel
theorem dX11_table_80 : decode cX11_table 80 = .ok (.invokevirtual 144, 3) := by decide +kernel
theorem dX11_table_83 : decode cX11_table 83 = .ok (.ireturn, 1) := by decide +kernel
theorem dX11_fault_0 : decode cX11_fault 0 = .ok (.aload_n 0, 1) := by decide +kernel
theorem dX11_fault_1 : decode cX11_fault 1 = .ok (.getfield 126, 3) := by decide +kernel
theorem dX11_fault_4 : decode cX11_fault 4 = .ok (.ireturn, 1) := by decide +kernel
theorem dX11_undo_0 : decode cX11_undo 0 = .ok (.aload_n 0, 1) := by decide +kernel
theorem dX11_undo_1 : decode cX11_undo 1 = .ok (.getfield 150, 3) := by decide +kernel
theorem dX11_undo_4 : decode cX11_undo 4 = .ok (.ifCond .ne 6, 3) := by decide +kernel
theorem dX11_undo_7 : decode cX11_undo 7 = .ok (.ldc 153, 2) := by decide +kernel
theorem dX11_undo_9 : decode cX11_undo 9 = .ok (.ireturn, 1) := by decide +kernel
theorem dX11_undo_10 : decode cX11_undo 10 = .ok (.aload_n 0, 1) := by decide +kernel
theorem dX11_undo_11 : decode cX11_undo 11 = .ok (.aload_n 0, 1) := by decide +kernel
theorem dX11_undo_12 : decode cX11_undo 12 = .ok (.getfield 154, 3) := by decide +kernel
theorem dX11_undo_15 : decode cX11_undo 15 = .ok (.bipush 24, 2) := by decide +kernel
theorem dX11_undo_17 : decode cX11_undo 17 = .ok (.iadd, 1) := by decide +kernel
theorem dX11_undo_18 : decode cX11_undo 18 = .ok (.iconst 1, 1) := by decide +kernel
theorem dX11_undo_19 : decode cX11_undo 19 = .ok (.isub, 1) := by decide +kernel
theorem dX11_undo_20 : decode cX11_undo 20 = .ok (.bipush 24, 2) := by decide +kernel
theorem dX11_undo_22 : decode cX11_undo 22 = .ok (.irem, 1) := by decide +kernel
theorem dX11_undo_23 : decode cX11_undo 23 = .ok (.putfield 154, 3) := by decide +kernel
theorem dX11_undo_26 : decode cX11_undo 26 = .ok (.aload_n 0, 1) := by decide +kernel
theorem dX11_undo_27 : decode cX11_undo 27 = .ok (.dup, 1) := by decide +kernel
theorem dX11_undo_28 : decode cX11_undo 28 = .ok (.getfield 150, 3) := by decide +kernel
theorem dX11_undo_31 : decode cX11_undo 31 = .ok (.iconst 1, 1) := by decide +kernel
theorem dX11_undo_32 : decode cX11_undo 32 = .ok (.isub, 1) := by decide +kernel
theorem dX11_undo_33 : decode cX11_undo 33 = .ok (.putfield 150, 3) := by decide +kernel
theorem dX11_undo_36 : decode cX11_undo 36 = .ok (.aload_n 0, 1) := by decide +kernel
theorem dX11_undo_37 : decode cX11_undo 37 = .ok (.getfield 58, 3) := by decide +kernel
theorem dX11_undo_40 : decode cX11_undo 40 = .ok (.getfield 157, 3) := by decide +kernel
theorem dX11_undo_43 : decode cX11_undo 43 = .ok (.aload_n 0, 1) := by decide +kernel
theorem dX11_undo_44 : decode cX11_undo 44 = .ok (.getfield 34, 3) := by decide +kernel
theorem dX11_undo_47 : decode cX11_undo 47 = .ok (.aload_n 0, 1) := by decide +kernel
theorem dX11_undo_48 : decode cX11_undo 48 = .ok (.getfield 154, 3) := by decide +kernel
theorem dX11_undo_51 : decode cX11_undo 51 = .ok (.aaload, 1) := by decide +kernel
theorem dX11_undo_52 : decode cX11_undo 52 = .ok (.invokevirtual 160, 3) := by decide +kernel
theorem dX11_undo_55 : decode cX11_undo 55 = .ok (.aload_n 0, 1) := by decide +kernel
theorem dX11_undo_56 : decode cX11_undo 56 = .ok (.getfield 150, 3) := by decide +kernel
theorem dX11_undo_59 : decode cX11_undo 59 = .ok (.ireturn, 1) := by decide +kernel
theorem dX11_charge_0 : decode cX11_charge 0 = .ok (.aload_n 0, 1) := by decide +kernel
theorem dX11_charge_1 : decode cX11_charge 1 = .ok (.getfield 133, 3) := by decide +kernel
theorem dX11_charge_4 : decode cX11_charge 4 = .ok (.ifCond .ne 6, 3) := by decide +kernel
theorem dX11_charge_7 : decode cX11_charge 7 = .ok (.ldc 153, 2) := by decide +kernel
theorem dX11_charge_9 : decode cX11_charge 9 = .ok (.ireturn, 1) := by decide +kernel
theorem dX11_charge_10 : decode cX11_charge 10 = .ok (.iload_n 1, 1) := by decide +kernel
theorem dX11_charge_11 : decode cX11_charge 11 = .ok (.iconst 0, 1) := by decide +kernel
theorem dX11_charge_12 : decode cX11_charge 12 = .ok (.bipush 99, 2) := by decide +kernel
theorem dX11_charge_14 : decode cX11_charge 14 = .ok (.invokestatic 70, 3) := by decide +kernel
theorem dX11_charge_17 : decode cX11_charge 17 = .ok (.ifCond .eq 13, 3) := by decide +kernel
theorem dX11_charge_20 : decode cX11_charge 20 = .ok (.iload_n 2, 1) := by decide +kernel
theorem dX11_charge_21 : decode cX11_charge 21 = .ok (.iconst 0, 1) := by decide +kernel
theorem dX11_charge_22 : decode cX11_charge 22 = .ok (.bipush 99, 2) := by decide +kernel
theorem dX11_charge_24 : decode cX11_charge 24 = .ok (.invokestatic 70, 3) := by decide +kernel
theorem dX11_charge_27 : decode cX11_charge 27 = .ok (.ifCond .ne 6, 3) := by decide +kernel
theorem dX11_charge_30 : decode cX11_charge 30 = .ok (.ldc 74, 2) := by decide +kernel
theorem dX11_charge_32 : decode cX11_charge 32 = .ok (.ireturn, 1) := by decide +kernel
theorem dX11_charge_33 : decode cX11_charge 33 = .ok (.aload_n 0, 1) := by decide +kernel
theorem dX11_charge_34 : decode cX11_charge 34 = .ok (.invokevirtual 164, 3) := by decide +kernel
theorem dX11_charge_37 : decode cX11_charge 37 = .ok (.aload_n 0, 1) := by decide +kernel
theorem dX11_charge_38 : decode cX11_charge 38 = .ok (.getfield 58, 3) := by decide +kernel
theorem dX11_charge_41 : decode cX11_charge 41 = .ok (.getfield 157, 3) := by decide +kernel
theorem dX11_charge_44 : decode cX11_charge 44 = .ok (.iload_n 1, 1) := by decide +kernel
theorem dX11_charge_45 : decode cX11_charge 45 = .ok (.iload_n 2, 1) := by decide +kernel
theorem dX11_charge_46 : decode cX11_charge 46 = .ok (.invokevirtual 167, 3) := by decide +kernel
theorem dX11_charge_49 : decode cX11_charge 49 = .ok (.aload_n 0, 1) := by decide +kernel
theorem dX11_charge_50 : decode cX11_charge 50 = .ok (.getfield 58, 3) := by decide +kernel
theorem dX11_charge_53 : decode cX11_charge 53 = .ok (.getfield 157, 3) := by decide +kernel
theorem dX11_charge_56 : decode cX11_charge 56 = .ok (.getfield 170, 3) := by decide +kernel
theorem dX11_charge_59 : decode cX11_charge 59 = .ok (.ireturn, 1) := by decide +kernel
theorem dX11_make_0 : decode cX11_make 0 = .ok (.aload_n 0, 1) := by decide +kernel
theorem dX11_make_1 : decode cX11_make 1 = .ok (.iload_n 1, 1) := by decide +kernel
theorem dX11_make_2 : decode cX11_make 2 = .ok (.invokevirtual 173, 3) := by decide +kernel
theorem dX11_make_5 : decode cX11_make 5 = .ok (.astore_n 2, 1) := by decide +kernel
theorem dX11_make_6 : decode cX11_make 6 = .ok (.aload_n 2, 1) := by decide +kernel
theorem dX11_make_7 : decode cX11_make 7 = .ok (.ifnonnull 6, 3) := by decide +kernel
theorem dX11_make_10 : decode cX11_make 10 = .ok (.ldc 74, 2) := by decide +kernel
theorem dX11_make_12 : decode cX11_make 12 = .ok (.ireturn, 1) := by decide +kernel
theorem dX11_make_13 : decode cX11_make 13 = .ok (.aload_n 0, 1) := by decide +kernel
theorem dX11_make_14 : decode cX11_make 14 = .ok (.invokevirtual 164, 3) := by decide +kernel
theorem dX11_make_17 : decode cX11_make 17 = .ok (.aload_n 2, 1) := by decide +kernel
theorem dX11_make_18 : decode cX11_make 18 = .ok (.aload_n 0, 1) := by decide +kernel
theorem dX11_make_19 : decode cX11_make 19 = .ok (.getfield 58, 3) := by decide +kernel
theorem dX11_make_22 : decode cX11_make 22 = .ok (.getfield 157, 3) := by decide +kernel
theorem dX11_make_25 : decode cX11_make 25 = .ok (.invokevirtual 177, 3) := by decide +kernel
theorem dX11_make_28 : decode cX11_make 28 = .ok (.aload_n 0, 1) := by decide +kernel
theorem dX11_make_29 : decode cX11_make 29 = .ok (.getfield 58, 3) := by decide +kernel
theorem dX11_make_32 : decode cX11_make 32 = .ok (.getfield 157, 3) := by decide +kernel
theorem dX11_make_35 : decode cX11_make 35 = .ok (.getfield 170, 3) := by decide +kernel
theorem dX11_make_38 : decode cX11_make 38 = .ok (.ireturn, 1) := by decide +kernel
theorem dX11_stand_0 : decode cX11_stand 0 = .ok (.aload_n 0, 1) := by decide +kernel
theorem dX11_stand_1 : decode cX11_stand 1 = .ok (.getfield 133, 3) := by decide +kernel
theorem dX11_stand_4 : decode cX11_stand 4 = .ok (.ifCond .ne 6, 3) := by decide +kernel
theorem dX11_stand_7 : decode cX11_stand 7 = .ok (.ldc 153, 2) := by decide +kernel
theorem dX11_stand_9 : decode cX11_stand 9 = .ok (.ireturn, 1) := by decide +kernel
theorem dX11_stand_10 : decode cX11_stand 10 = .ok (.iload_n 1, 1) := by decide +kernel
theorem dX11_stand_11 : decode cX11_stand 11 = .ok (.invokestatic 182, 3) := by decide +kernel
theorem dX11_stand_14 : decode cX11_stand 14 = .ok (.ifCond .ne 6, 3) := by decide +kernel
theorem dX11_stand_17 : decode cX11_stand 17 = .ok (.ldc 74, 2) := by decide +kernel
theorem dX11_stand_19 : decode cX11_stand 19 = .ok (.ireturn, 1) := by decide +kernel
theorem dX11_stand_20 : decode cX11_stand 20 = .ok (.aload_n 0, 1) := by decide +kernel
theorem dX11_stand_21 : decode cX11_stand 21 = .ok (.invokevirtual 164, 3) := by decide +kernel
theorem dX11_stand_24 : decode cX11_stand 24 = .ok (.aload_n 0, 1) := by decide +kernel
theorem dX11_stand_25 : decode cX11_stand 25 = .ok (.getfield 58, 3) := by decide +kernel
theorem dX11_stand_28 : decode cX11_stand 28 = .ok (.getfield 157, 3) := by decide +kernel
theorem dX11_stand_31 : decode cX11_stand 31 = .ok (.iload_n 1, 1) := by decide +kernel
theorem dX11_stand_32 : decode cX11_stand 32 = .ok (.invokevirtual 185, 3) := by decide +kernel
theorem dX11_stand_35 : decode cX11_stand 35 = .ok (.aload_n 0, 1) := by decide +kernel
theorem dX11_stand_36 : decode cX11_stand 36 = .ok (.getfield 58, 3) := by decide +kernel
theorem dX11_stand_39 : decode cX11_stand 39 = .ok (.getfield 157, 3) := by decide +kernel
theorem dX11_stand_42 : decode cX11_stand 42 = .ok (.getfield 189, 3) := by decide +kernel
theorem dX11_stand_45 : decode cX11_stand 45 = .ok (.iload_n 1, 1) := by decide +kernel
theorem dX11_stand_46 : decode cX11_stand 46 = .ok (.iaload, 1) := by decide +kernel
theorem dX11_stand_47 : decode cX11_stand 47 = .ok (.ireturn, 1) := by decide +kernel
theorem dX11_rest_0 : decode cX11_rest 0 = .ok (.aload_n 0, 1) := by decide +kernel
theorem dX11_rest_1 : decode cX11_rest 1 = .ok (.getfield 133, 3) := by decide +kernel
theorem dX11_rest_4 : decode cX11_rest 4 = .ok (.ifCond .ne 6, 3) := by decide +kernel
theorem dX11_rest_7 : decode cX11_rest 7 = .ok (.ldc 153, 2) := by decide +kernel
theorem dX11_rest_9 : decode cX11_rest 9 = .ok (.ireturn, 1) := by decide +kernel
theorem dX11_rest_10 : decode cX11_rest 10 = .ok (.aload_n 0, 1) := by decide +kernel
theorem dX11_rest_11 : decode cX11_rest 11 = .ok (.invokevirtual 164, 3) := by decide +kernel
theorem dX11_rest_14 : decode cX11_rest 14 = .ok (.aload_n 0, 1) := by decide +kernel
theorem dX11_rest_15 : decode cX11_rest 15 = .ok (.getfield 58, 3) := by decide +kernel
theorem dX11_rest_18 : decode cX11_rest 18 = .ok (.getfield 157, 3) := by decide +kernel
theorem dX11_rest_21 : decode cX11_rest 21 = .ok (.aload_n 0, 1) := by decide +kernel
theorem dX11_rest_22 : decode cX11_rest 22 = .ok (.getfield 58, 3) := by decide +kernel
theorem dX11_rest_25 : decode cX11_rest 25 = .ok (.getfield 192, 3) := by decide +kernel
theorem dX11_rest_28 : decode cX11_rest 28 = .ok (.invokevirtual 195, 3) := by decide +kernel
theorem dX11_rest_31 : decode cX11_rest 31 = .ok (.aload_n 0, 1) := by decide +kernel
theorem dX11_rest_32 : decode cX11_rest 32 = .ok (.getfield 58, 3) := by decide +kernel
theorem dX11_rest_35 : decode cX11_rest 35 = .ok (.getfield 157, 3) := by decide +kernel
theorem dX11_rest_38 : decode cX11_rest 38 = .ok (.invokevirtual 198, 3) := by decide +kernel
theorem dX11_rest_41 : decode cX11_rest 41 = .ok (.ireturn, 1) := by decide +kernel
theorem dX11_cell_0 : decode cX11_cell 0 = .ok (.aload_n 0, 1) := by decide +kernel
theorem dX11_cell_1 : decode cX11_cell 1 = .ok (.getfield 133, 3) := by decide +kernel
theorem dX11_cell_4 : decode cX11_cell 4 = .ok (.ifCond .ne 6, 3) := by decide +kernel
theorem dX11_cell_7 : decode cX11_cell 7 = .ok (.ldc 153, 2) := by decide +kernel
theorem dX11_cell_9 : decode cX11_cell 9 = .ok (.ireturn, 1) := by decide +kernel
theorem dX11_cell_10 : decode cX11_cell 10 = .ok (.iload_n 1, 1) := by decide +kernel
theorem dX11_cell_11 : decode cX11_cell 11 = .ok (.invokestatic 182, 3) := by decide +kernel
theorem dX11_cell_14 : decode cX11_cell 14 = .ok (.ifCond .ne 6, 3) := by decide +kernel
theorem dX11_cell_17 : decode cX11_cell 17 = .ok (.ldc 74, 2) := by decide +kernel
theorem dX11_cell_19 : decode cX11_cell 19 = .ok (.ireturn, 1) := by decide +kernel
theorem dX11_cell_20 : decode cX11_cell 20 = .ok (.iload_n 2, 1) := by decide +kernel
theorem dX11_cell_21 : decode cX11_cell 21 = .ok (.tableswitch 79 0 3 #[31, 44, 57, 70], 31) := by decide +kernel
theorem dX11_cell_52 : decode cX11_cell 52 = .ok (.aload_n 0, 1) := by decide +kernel
theorem dX11_cell_53 : decode cX11_cell 53 = .ok (.getfield 58, 3) := by decide +kernel
theorem dX11_cell_56 : decode cX11_cell 56 = .ok (.getfield 157, 3) := by decide +kernel
theorem dX11_cell_59 : decode cX11_cell 59 = .ok (.getfield 189, 3) := by decide +kernel
theorem dX11_cell_62 : decode cX11_cell 62 = .ok (.iload_n 1, 1) := by decide +kernel
theorem dX11_cell_63 : decode cX11_cell 63 = .ok (.iaload, 1) := by decide +kernel
theorem dX11_cell_64 : decode cX11_cell 64 = .ok (.ireturn, 1) := by decide +kernel
theorem dX11_cell_65 : decode cX11_cell 65 = .ok (.aload_n 0, 1) := by decide +kernel
theorem dX11_cell_66 : decode cX11_cell 66 = .ok (.getfield 58, 3) := by decide +kernel
theorem dX11_cell_69 : decode cX11_cell 69 = .ok (.getfield 157, 3) := by decide +kernel
theorem dX11_cell_72 : decode cX11_cell 72 = .ok (.getfield 201, 3) := by decide +kernel
theorem dX11_cell_75 : decode cX11_cell 75 = .ok (.iload_n 1, 1) := by decide +kernel
theorem dX11_cell_76 : decode cX11_cell 76 = .ok (.iaload, 1) := by decide +kernel
theorem dX11_cell_77 : decode cX11_cell 77 = .ok (.ireturn, 1) := by decide +kernel
theorem dX11_cell_78 : decode cX11_cell 78 = .ok (.aload_n 0, 1) := by decide +kernel
theorem dX11_cell_79 : decode cX11_cell 79 = .ok (.getfield 58, 3) := by decide +kernel
theorem dX11_cell_82 : decode cX11_cell 82 = .ok (.getfield 157, 3) := by decide +kernel
theorem dX11_cell_85 : decode cX11_cell 85 = .ok (.getfield 204, 3) := by decide +kernel
theorem dX11_cell_88 : decode cX11_cell 88 = .ok (.iload_n 1, 1) := by decide +kernel
theorem dX11_cell_89 : decode cX11_cell 89 = .ok (.iaload, 1) := by decide +kernel
theorem dX11_cell_90 : decode cX11_cell 90 = .ok (.ireturn, 1) := by decide +kernel
theorem dX11_cell_91 : decode cX11_cell 91 = .ok (.aload_n 0, 1) := by decide +kernel
theorem dX11_cell_92 : decode cX11_cell 92 = .ok (.getfield 58, 3) := by decide +kernel
theorem dX11_cell_95 : decode cX11_cell 95 = .ok (.iload_n 1, 1) := by decide +kernel
theorem dX11_cell_96 : decode cX11_cell 96 = .ok (.invokevirtual 207, 3) := by decide +kernel
theorem dX11_cell_99 : decode cX11_cell 99 = .ok (.ireturn, 1) := by decide +kernel
theorem dX11_cell_100 : decode cX11_cell 100 = .ok (.ldc 74, 2) := by decide +kernel
theorem dX11_cell_102 : decode cX11_cell 102 = .ok (.ireturn, 1) := by decide +kernel
theorem dX11_path_0 : decode cX11_path 0 = .ok (.aload_n 0, 1) := by decide +kernel
theorem dX11_path_1 : decode cX11_path 1 = .ok (.iload_n 1, 1) := by decide +kernel
theorem dX11_path_2 : decode cX11_path 2 = .ok (.invokevirtual 173, 3) := by decide +kernel
theorem dX11_path_5 : decode cX11_path 5 = .ok (.astore_n 3, 1) := by decide +kernel
theorem dX11_path_6 : decode cX11_path 6 = .ok (.aload_n 3, 1) := by decide +kernel
theorem dX11_path_7 : decode cX11_path 7 = .ok (.ifnull 8, 3) := by decide +kernel
theorem dX11_path_10 : decode cX11_path 10 = .ok (.iload_n 2, 1) := by decide +kernel
theorem dX11_path_11 : decode cX11_path 11 = .ok (.iconst (-1), 1) := by decide +kernel
theorem dX11_path_12 : decode cX11_path 12 = .ok (.if_icmp .ge 6, 3) := by decide +kernel
theorem dX11_path_15 : decode cX11_path 15 = .ok (.ldc 74, 2) := by decide +kernel
theorem dX11_path_17 : decode cX11_path 17 = .ok (.ireturn, 1) := by decide +kernel
theorem dX11_path_18 : decode cX11_path 18 = .ok (.iload_n 2, 1) := by decide +kernel
theorem dX11_path_19 : decode cX11_path 19 = .ok (.iconst (-1), 1) := by decide +kernel
theorem dX11_path_20 : decode cX11_path 20 = .ok (.if_icmp .ne 9, 3) := by decide +kernel
theorem dX11_path_23 : decode cX11_path 23 = .ok (.aload_n 3, 1) := by decide +kernel
theorem dX11_path_24 : decode cX11_path 24 = .ok (.getfield 210, 3) := by decide +kernel
theorem dX11_path_27 : decode cX11_path 27 = .ok (.arraylength, 1) := by decide +kernel
theorem dX11_path_28 : decode cX11_path 28 = .ok (.ireturn, 1) := by decide +kernel
theorem dX11_path_29 : decode cX11_path 29 = .ok (.iload_n 2, 1) := by decide +kernel
theorem dX11_path_30 : decode cX11_path 30 = .ok (.aload_n 3, 1) := by decide +kernel
theorem dX11_path_31 : decode cX11_path 31 = .ok (.getfield 210, 3) := by decide +kernel
theorem dX11_path_34 : decode cX11_path 34 = .ok (.arraylength, 1) := by decide +kernel
theorem dX11_path_35 : decode cX11_path 35 = .ok (.if_icmp .ge 12, 3) := by decide +kernel
theorem dX11_path_38 : decode cX11_path 38 = .ok (.aload_n 3, 1) := by decide +kernel
theorem dX11_path_39 : decode cX11_path 39 = .ok (.getfield 210, 3) := by decide +kernel
theorem dX11_path_42 : decode cX11_path 42 = .ok (.iload_n 2, 1) := by decide +kernel
theorem dX11_path_43 : decode cX11_path 43 = .ok (.iaload, 1) := by decide +kernel
theorem dX11_path_44 : decode cX11_path 44 = .ok (.goto 5, 3) := by decide +kernel
theorem dX11_path_47 : decode cX11_path 47 = .ok (.ldc 213, 2) := by decide +kernel
theorem dX11_path_49 : decode cX11_path 49 = .ok (.ireturn, 1) := by decide +kernel
theorem dX11_pad_0 : decode cX11_pad 0 = .ok (.aload_n 0, 1) := by decide +kernel
theorem dX11_pad_1 : decode cX11_pad 1 = .ok (.getfield 133, 3) := by decide +kernel
theorem dX11_pad_4 : decode cX11_pad 4 = .ok (.ifCond .ne 6, 3) := by decide +kernel
theorem dX11_pad_7 : decode cX11_pad 7 = .ok (.ldc 153, 2) := by decide +kernel
theorem dX11_pad_9 : decode cX11_pad 9 = .ok (.ireturn, 1) := by decide +kernel
theorem dX11_pad_10 : decode cX11_pad 10 = .ok (.iload_n 1, 1) := by decide +kernel
theorem dX11_pad_11 : decode cX11_pad 11 = .ok (.tableswitch 58 0 2 #[25, 36, 47], 25) := by decide +kernel
theorem dX11_pad_36 : decode cX11_pad 36 = .ok (.aload_n 0, 1) := by decide +kernel
theorem dX11_pad_37 : decode cX11_pad 37 = .ok (.getfield 58, 3) := by decide +kernel
theorem dX11_pad_40 : decode cX11_pad 40 = .ok (.getfield 157, 3) := by decide +kernel
theorem dX11_pad_43 : decode cX11_pad 43 = .ok (.getfield 170, 3) := by decide +kernel
theorem dX11_pad_46 : decode cX11_pad 46 = .ok (.ireturn, 1) := by decide +kernel
theorem dX11_pad_47 : decode cX11_pad 47 = .ok (.aload_n 0, 1) := by decide +kernel
theorem dX11_pad_48 : decode cX11_pad 48 = .ok (.getfield 58, 3) := by decide +kernel
theorem dX11_pad_51 : decode cX11_pad 51 = .ok (.getfield 157, 3) := by decide +kernel
theorem dX11_pad_54 : decode cX11_pad 54 = .ok (.getfield 214, 3) := by decide +kernel
theorem dX11_pad_57 : decode cX11_pad 57 = .ok (.ireturn, 1) := by decide +kernel
theorem dX11_pad_58 : decode cX11_pad 58 = .ok (.aload_n 0, 1) := by decide +kernel
theorem dX11_pad_59 : decode cX11_pad 59 = .ok (.getfield 58, 3) := by decide +kernel
theorem dX11_pad_62 : decode cX11_pad 62 = .ok (.getfield 157, 3) := by decide +kernel
theorem dX11_pad_65 : decode cX11_pad 65 = .ok (.getfield 217, 3) := by decide +kernel
theorem dX11_pad_68 : decode cX11_pad 68 = .ok (.ireturn, 1) := by decide +kernel
theorem dX11_pad_69 : decode cX11_pad 69 = .ok (.ldc 74, 2) := by decide +kernel
theorem dX11_pad_71 : decode cX11_pad 71 = .ok (.ireturn, 1) := by decide +kernel
theorem dX11_ahead_0 : decode cX11_ahead 0 = .ok (.aload_n 0, 1) := by decide +kernel
theorem dX11_ahead_1 : decode cX11_ahead 1 = .ok (.getfield 133, 3) := by decide +kernel
theorem dX11_ahead_4 : decode cX11_ahead 4 = .ok (.ifCond .ne 6, 3) := by decide +kernel
theorem dX11_ahead_7 : decode cX11_ahead 7 = .ok (.ldc 153, 2) := by decide +kernel
theorem dX11_ahead_9 : decode cX11_ahead 9 = .ok (.ireturn, 1) := by decide +kernel
theorem dX11_ahead_10 : decode cX11_ahead 10 = .ok (.iload_n 1, 1) := by decide +kernel
theorem dX11_ahead_11 : decode cX11_ahead 11 = .ok (.iconst 0, 1) := by decide +kernel
theorem dX11_ahead_12 : decode cX11_ahead 12 = .ok (.bipush 20, 2) := by decide +kernel
theorem dX11_ahead_14 : decode cX11_ahead 14 = .ok (.invokestatic 70, 3) := by decide +kernel
theorem dX11_ahead_17 : decode cX11_ahead 17 = .ok (.ifCond .eq 19, 3) := by decide +kernel
theorem dX11_ahead_20 : decode cX11_ahead 20 = .ok (.iload_n 2, 1) := by decide +kernel
theorem dX11_ahead_21 : decode cX11_ahead 21 = .ok (.invokestatic 182, 3) := by decide +kernel
theorem dX11_ahead_24 : decode cX11_ahead 24 = .ok (.ifCond .eq 12, 3) := by decide +kernel
theorem dX11_ahead_27 : decode cX11_ahead 27 = .ok (.iload_n 3, 1) := by decide +kernel
theorem dX11_ahead_28 : decode cX11_ahead 28 = .ok (.iconst 0, 1) := by decide +kernel
theorem dX11_ahead_29 : decode cX11_ahead 29 = .ok (.iconst 1, 1) := by decide +kernel
theorem dX11_ahead_30 : decode cX11_ahead 30 = .ok (.invokestatic 70, 3) := by decide +kernel
theorem dX11_ahead_33 : decode cX11_ahead 33 = .ok (.ifCond .ne 6, 3) := by decide +kernel
theorem dX11_ahead_36 : decode cX11_ahead 36 = .ok (.ldc 74, 2) := by decide +kernel
theorem dX11_ahead_38 : decode cX11_ahead 38 = .ok (.ireturn, 1) := by decide +kernel
theorem dX11_ahead_39 : decode cX11_ahead 39 = .ok (.aload_n 0, 1) := by decide +kernel
theorem dX11_ahead_40 : decode cX11_ahead 40 = .ok (.iload_n 1, 1) := by decide +kernel
theorem dX11_ahead_41 : decode cX11_ahead 41 = .ok (.invokevirtual 220, 3) := by decide +kernel
theorem dX11_ahead_44 : decode cX11_ahead 44 = .ok (.iload_n 3, 1) := by decide +kernel
theorem dX11_ahead_45 : decode cX11_ahead 45 = .ok (.ifCond .ne 15, 3) := by decide +kernel
theorem dX11_ahead_48 : decode cX11_ahead 48 = .ok (.aload_n 0, 1) := by decide +kernel
theorem dX11_ahead_49 : decode cX11_ahead 49 = .ok (.getfield 39, 3) := by decide +kernel
theorem dX11_ahead_52 : decode cX11_ahead 52 = .ok (.getfield 189, 3) := by decide +kernel
theorem dX11_ahead_55 : decode cX11_ahead 55 = .ok (.iload_n 2, 1) := by decide +kernel
theorem dX11_ahead_56 : decode cX11_ahead 56 = .ok (.iaload, 1) := by decide +kernel
theorem dX11_ahead_57 : decode cX11_ahead 57 = .ok (.goto 12, 3) := by decide +kernel
theorem dX11_ahead_60 : decode cX11_ahead 60 = .ok (.aload_n 0, 1) := by decide +kernel
theorem dX11_ahead_61 : decode cX11_ahead 61 = .ok (.getfield 39, 3) := by decide +kernel
theorem dX11_ahead_64 : decode cX11_ahead 64 = .ok (.getfield 204, 3) := by decide +kernel
theorem dX11_ahead_67 : decode cX11_ahead 67 = .ok (.iload_n 2, 1) := by decide +kernel
theorem dX11_ahead_68 : decode cX11_ahead 68 = .ok (.iaload, 1) := by decide +kernel
theorem dX11_ahead_69 : decode cX11_ahead 69 = .ok (.ireturn, 1) := by decide +kernel
theorem dX11_uneven_0 : decode cX11_uneven 0 = .ok (.aload_n 0, 1) := by decide +kernel
theorem dX11_uneven_1 : decode cX11_uneven 1 = .ok (.getfield 133, 3) := by decide +kernel
theorem dX11_uneven_4 : decode cX11_uneven 4 = .ok (.ifCond .ne 6, 3) := by decide +kernel
theorem dX11_uneven_7 : decode cX11_uneven 7 = .ok (.ldc 153, 2) := by decide +kernel
theorem dX11_uneven_9 : decode cX11_uneven 9 = .ok (.ireturn, 1) := by decide +kernel
theorem dX11_uneven_10 : decode cX11_uneven 10 = .ok (.iload_n 1, 1) := by decide +kernel
theorem dX11_uneven_11 : decode cX11_uneven 11 = .ok (.iconst 0, 1) := by decide +kernel
theorem dX11_uneven_12 : decode cX11_uneven 12 = .ok (.bipush 20, 2) := by decide +kernel
theorem dX11_uneven_14 : decode cX11_uneven 14 = .ok (.invokestatic 70, 3) := by decide +kernel
theorem dX11_uneven_17 : decode cX11_uneven 17 = .ok (.ifCond .ne 6, 3) := by decide +kernel
theorem dX11_uneven_20 : decode cX11_uneven 20 = .ok (.ldc 74, 2) := by decide +kernel
theorem dX11_uneven_22 : decode cX11_uneven 22 = .ok (.ireturn, 1) := by decide +kernel
theorem dX11_uneven_23 : decode cX11_uneven 23 = .ok (.aload_n 0, 1) := by decide +kernel
theorem dX11_uneven_24 : decode cX11_uneven 24 = .ok (.iload_n 1, 1) := by decide +kernel
theorem dX11_uneven_25 : decode cX11_uneven 25 = .ok (.invokevirtual 220, 3) := by decide +kernel
theorem dX11_uneven_28 : decode cX11_uneven 28 = .ok (.aload_n 0, 1) := by decide +kernel
theorem dX11_uneven_29 : decode cX11_uneven 29 = .ok (.getfield 39, 3) := by decide +kernel
theorem dX11_uneven_32 : decode cX11_uneven 32 = .ok (.invokevirtual 223, 3) := by decide +kernel
theorem dX11_uneven_35 : decode cX11_uneven 35 = .ok (.ireturn, 1) := by decide +kernel
theorem dX11_order_0 : decode cX11_order 0 = .ok (.aload_n 0, 1) := by decide +kernel
theorem dX11_order_1 : decode cX11_order 1 = .ok (.getfield 133, 3) := by decide +kernel
theorem dX11_order_4 : decode cX11_order 4 = .ok (.ifCond .ne 6, 3) := by decide +kernel
theorem dX11_order_7 : decode cX11_order 7 = .ok (.ldc 153, 2) := by decide +kernel
theorem dX11_order_9 : decode cX11_order 9 = .ok (.ireturn, 1) := by decide +kernel
theorem dX11_order_10 : decode cX11_order 10 = .ok (.iload_n 1, 1) := by decide +kernel
theorem dX11_order_11 : decode cX11_order 11 = .ok (.iconst (-1), 1) := by decide +kernel
theorem dX11_order_12 : decode cX11_order 12 = .ok (.iconst 3, 1) := by decide +kernel
theorem dX11_order_13 : decode cX11_order 13 = .ok (.invokestatic 70, 3) := by decide +kernel
theorem dX11_order_16 : decode cX11_order 16 = .ok (.ifCond .ne 6, 3) := by decide +kernel
theorem dX11_order_19 : decode cX11_order 19 = .ok (.ldc 74, 2) := by decide +kernel
theorem dX11_order_21 : decode cX11_order 21 = .ok (.ireturn, 1) := by decide +kernel
theorem dX11_order_22 : decode cX11_order 22 = .ok (.aload_n 0, 1) := by decide +kernel
theorem dX11_order_23 : decode cX11_order 23 = .ok (.invokevirtual 226, 3) := by decide +kernel
theorem dX11_order_26 : decode cX11_order 26 = .ok (.istore_n 2, 1) := by decide +kernel
theorem dX11_order_27 : decode cX11_order 27 = .ok (.iload_n 1, 1) := by decide +kernel
theorem dX11_order_28 : decode cX11_order 28 = .ok (.iconst (-1), 1) := by decide +kernel
theorem dX11_order_29 : decode cX11_order 29 = .ok (.if_icmp .ne 5, 3) := by decide +kernel
theorem dX11_order_32 : decode cX11_order 32 = .ok (.iload_n 2, 1) := by decide +kernel
theorem dX11_order_33 : decode cX11_order 33 = .ok (.ireturn, 1) := by decide +kernel
theorem dX11_order_34 : decode cX11_order 34 = .ok (.iload_n 1, 1) := by decide +kernel
theorem dX11_order_35 : decode cX11_order 35 = .ok (.aload_n 0, 1) := by decide +kernel
theorem dX11_order_36 : decode cX11_order 36 = .ok (.getfield 58, 3) := by decide +kernel
theorem dX11_order_39 : decode cX11_order 39 = .ok (.getfield 140, 3) := by decide +kernel
theorem dX11_order_42 : decode cX11_order 42 = .ok (.invokevirtual 144, 3) := by decide +kernel
theorem dX11_order_45 : decode cX11_order 45 = .ok (.if_icmp .ge 12, 3) := by decide +kernel
theorem dX11_order_48 : decode cX11_order 48 = .ok (.aload_n 0, 1) := by decide +kernel
theorem dX11_order_49 : decode cX11_order 49 = .ok (.getfield 54, 3) := by decide +kernel
theorem dX11_order_52 : decode cX11_order 52 = .ok (.iload_n 1, 1) := by decide +kernel
theorem dX11_order_53 : decode cX11_order 53 = .ok (.iaload, 1) := by decide +kernel
theorem dX11_order_54 : decode cX11_order 54 = .ok (.goto 5, 3) := by decide +kernel
theorem dX11_order_57 : decode cX11_order 57 = .ok (.ldc 213, 2) := by decide +kernel
theorem dX11_order_59 : decode cX11_order 59 = .ok (.ireturn, 1) := by decide +kernel
theorem dX11_enough_0 : decode cX11_enough 0 = .ok (.aload_n 0, 1) := by decide +kernel
theorem dX11_enough_1 : decode cX11_enough 1 = .ok (.getfield 133, 3) := by decide +kernel
theorem dX11_enough_4 : decode cX11_enough 4 = .ok (.ifCond .ne 6, 3) := by decide +kernel
theorem dX11_enough_7 : decode cX11_enough 7 = .ok (.ldc 153, 2) := by decide +kernel
theorem dX11_enough_9 : decode cX11_enough 9 = .ok (.ireturn, 1) := by decide +kernel
theorem dX11_enough_10 : decode cX11_enough 10 = .ok (.iload_n 1, 1) := by decide +kernel
theorem dX11_enough_11 : decode cX11_enough 11 = .ok (.iconst 1, 1) := by decide +kernel
theorem dX11_enough_12 : decode cX11_enough 12 = .ok (.sipush 999, 3) := by decide +kernel
theorem dX11_enough_15 : decode cX11_enough 15 = .ok (.invokestatic 70, 3) := by decide +kernel
theorem dX11_enough_18 : decode cX11_enough 18 = .ok (.ifCond .ne 6, 3) := by decide +kernel
theorem dX11_enough_21 : decode cX11_enough 21 = .ok (.ldc 74, 2) := by decide +kernel
theorem dX11_enough_23 : decode cX11_enough 23 = .ok (.ireturn, 1) := by decide +kernel
theorem dX11_enough_24 : decode cX11_enough 24 = .ok (.aload_n 0, 1) := by decide +kernel
theorem dX11_enough_25 : decode cX11_enough 25 = .ok (.getfield 58, 3) := by decide +kernel
theorem dX11_enough_28 : decode cX11_enough 28 = .ok (.aload_n 0, 1) := by decide +kernel
theorem dX11_enough_29 : decode cX11_enough 29 = .ok (.invokevirtual 229, 3) := by decide +kernel
theorem dX11_enough_32 : decode cX11_enough 32 = .ok (.invokevirtual 232, 3) := by decide +kernel
theorem dX11_enough_35 : decode cX11_enough 35 = .ok (.istore_n 2, 1) := by decide +kernel
theorem dX11_enough_36 : decode cX11_enough 36 = .ok (.aload_n 0, 1) := by decide +kernel
theorem dX11_enough_37 : decode cX11_enough 37 = .ok (.getfield 39, 3) := by decide +kernel
theorem dX11_enough_40 : decode cX11_enough 40 = .ok (.aload_n 0, 1) := by decide +kernel
theorem dX11_enough_41 : decode cX11_enough 41 = .ok (.getfield 58, 3) := by decide +kernel
theorem dX11_enough_44 : decode cX11_enough 44 = .ok (.getfield 157, 3) := by decide +kernel
theorem dX11_enough_47 : decode cX11_enough 47 = .ok (.invokevirtual 160, 3) := by decide +kernel
theorem dX11_enough_50 : decode cX11_enough 50 = .ok (.iconst 0, 1) := by decide +kernel
theorem dX11_enough_51 : decode cX11_enough 51 = .ok (.istore_n 3, 1) := by decide +kernel
theorem dX11_enough_52 : decode cX11_enough 52 = .ok (.iload_n 3, 1) := by decide +kernel
theorem dX11_enough_53 : decode cX11_enough 53 = .ok (.bipush 40, 2) := by decide +kernel
theorem dX11_enough_55 : decode cX11_enough 55 = .ok (.if_icmp .gt 34, 3) := by decide +kernel
theorem dX11_enough_58 : decode cX11_enough 58 = .ok (.aload_n 0, 1) := by decide +kernel
theorem dX11_enough_59 : decode cX11_enough 59 = .ok (.getfield 39, 3) := by decide +kernel
theorem dX11_enough_62 : decode cX11_enough 62 = .ok (.iload_n 1, 1) := by decide +kernel
theorem dX11_enough_63 : decode cX11_enough 63 = .ok (.iload_n 2, 1) := by decide +kernel
theorem dX11_enough_64 : decode cX11_enough 64 = .ok (.invokevirtual 235, 3) := by decide +kernel
theorem dX11_enough_67 : decode cX11_enough 67 = .ok (.ifCond .ne 5, 3) := by decide +kernel
theorem dX11_enough_70 : decode cX11_enough 70 = .ok (.iload_n 3, 1) := by decide +kernel
theorem dX11_enough_71 : decode cX11_enough 71 = .ok (.ireturn, 1) := by decide +kernel
theorem dX11_enough_72 : decode cX11_enough 72 = .ok (.aload_n 0, 1) := by decide +kernel
theorem dX11_enough_73 : decode cX11_enough 73 = .ok (.getfield 58, 3) := by decide +kernel
theorem dX11_enough_76 : decode cX11_enough 76 = .ok (.aload_n 0, 1) := by decide +kernel
theorem dX11_enough_77 : decode cX11_enough 77 = .ok (.getfield 39, 3) := by decide +kernel
theorem dX11_enough_80 : decode cX11_enough 80 = .ok (.invokevirtual 238, 3) := by decide +kernel
theorem dX11_enough_83 : decode cX11_enough 83 = .ok (.iinc 3 1, 3) := by decide +kernel
theorem dX11_enough_86 : decode cX11_enough 86 = .ok (.goto (-34), 3) := by decide +kernel
theorem dX11_enough_89 : decode cX11_enough 89 = .ok (.ldc 213, 2) := by decide +kernel
theorem dX11_enough_91 : decode cX11_enough 91 = .ok (.ireturn, 1) := by decide +kernel
theorem dX11_wetFor_0 : decode cX11_wetFor 0 = .ok (.aload_n 0, 1) := by decide +kernel
theorem dX11_wetFor_1 : decode cX11_wetFor 1 = .ok (.iload_n 1, 1) := by decide +kernel
theorem dX11_wetFor_2 : decode cX11_wetFor 2 = .ok (.invokevirtual 173, 3) := by decide +kernel
theorem dX11_wetFor_5 : decode cX11_wetFor 5 = .ok (.astore_n 3, 1) := by decide +kernel
theorem dX11_wetFor_6 : decode cX11_wetFor 6 = .ok (.aload_n 3, 1) := by decide +kernel
theorem dX11_wetFor_7 : decode cX11_wetFor 7 = .ok (.ifnull 13, 3) := by decide +kernel
theorem dX11_wetFor_10 : decode cX11_wetFor 10 = .ok (.iload_n 2, 1) := by decide +kernel
theorem dX11_wetFor_11 : decode cX11_wetFor 11 = .ok (.iconst 0, 1) := by decide +kernel
theorem dX11_wetFor_12 : decode cX11_wetFor 12 = .ok (.bipush 99, 2) := by decide +kernel
theorem dX11_wetFor_14 : decode cX11_wetFor 14 = .ok (.invokestatic 70, 3) := by decide +kernel
theorem dX11_wetFor_17 : decode cX11_wetFor 17 = .ok (.ifCond .ne 6, 3) := by decide +kernel
theorem dX11_wetFor_20 : decode cX11_wetFor 20 = .ok (.ldc 74, 2) := by decide +kernel
theorem dX11_wetFor_22 : decode cX11_wetFor 22 = .ok (.ireturn, 1) := by decide +kernel
theorem dX11_wetFor_23 : decode cX11_wetFor 23 = .ok (.iconst 0, 1) := by decide +kernel
theorem dX11_wetFor_24 : decode cX11_wetFor 24 = .ok (.istore 4, 2) := by decide +kernel
theorem dX11_wetFor_26 : decode cX11_wetFor 26 = .ok (.iload 4, 2) := by decide +kernel
theorem dX11_wetFor_28 : decode cX11_wetFor 28 = .ok (.bipush 99, 2) := by decide +kernel
theorem dX11_wetFor_30 : decode cX11_wetFor 30 = .ok (.if_icmp .gt 52, 3) := by decide +kernel
theorem dX11_wetFor_33 : decode cX11_wetFor 33 = .ok (.aload_n 0, 1) := by decide +kernel
theorem dX11_wetFor_34 : decode cX11_wetFor 34 = .ok (.getfield 39, 3) := by decide +kernel
theorem dX11_wetFor_37 : decode cX11_wetFor 37 = .ok (.aload_n 0, 1) := by decide +kernel
theorem dX11_wetFor_38 : decode cX11_wetFor 38 = .ok (.getfield 58, 3) := by decide +kernel
theorem dX11_wetFor_41 : decode cX11_wetFor 41 = .ok (.getfield 157, 3) := by decide +kernel
theorem dX11_wetFor_44 : decode cX11_wetFor 44 = .ok (.invokevirtual 160, 3) := by decide +kernel
theorem dX11_wetFor_47 : decode cX11_wetFor 47 = .ok (.aload_n 0, 1) := by decide +kernel
theorem dX11_wetFor_48 : decode cX11_wetFor 48 = .ok (.getfield 39, 3) := by decide +kernel
theorem dX11_wetFor_51 : decode cX11_wetFor 51 = .ok (.iload 4, 2) := by decide +kernel
theorem dX11_wetFor_53 : decode cX11_wetFor 53 = .ok (.putfield 170, 3) := by decide +kernel
theorem dX11_wetFor_56 : decode cX11_wetFor 56 = .ok (.aload_n 3, 1) := by decide +kernel
theorem dX11_wetFor_57 : decode cX11_wetFor 57 = .ok (.aload_n 0, 1) := by decide +kernel
theorem dX11_wetFor_58 : decode cX11_wetFor 58 = .ok (.getfield 39, 3) := by decide +kernel
theorem dX11_wetFor_61 : decode cX11_wetFor 61 = .ok (.invokevirtual 177, 3) := by decide +kernel
theorem dX11_wetFor_64 : decode cX11_wetFor 64 = .ok (.aload_n 0, 1) := by decide +kernel
theorem dX11_wetFor_65 : decode cX11_wetFor 65 = .ok (.aload_n 3, 1) := by decide +kernel
theorem dX11_wetFor_66 : decode cX11_wetFor 66 = .ok (.iload_n 2, 1) := by decide +kernel
theorem dX11_wetFor_67 : decode cX11_wetFor 67 = .ok (.invokevirtual 241, 3) := by decide +kernel
theorem dX11_wetFor_70 : decode cX11_wetFor 70 = .ok (.ifCond .eq 6, 3) := by decide +kernel
theorem dX11_wetFor_73 : decode cX11_wetFor 73 = .ok (.iload 4, 2) := by decide +kernel
theorem dX11_wetFor_75 : decode cX11_wetFor 75 = .ok (.ireturn, 1) := by decide +kernel
theorem dX11_wetFor_76 : decode cX11_wetFor 76 = .ok (.iinc 4 1, 3) := by decide +kernel
theorem dX11_wetFor_79 : decode cX11_wetFor 79 = .ok (.goto (-53), 3) := by decide +kernel
theorem dX11_wetFor_82 : decode cX11_wetFor 82 = .ok (.ldc 213, 2) := by decide +kernel
theorem dX11_wetFor_84 : decode cX11_wetFor 84 = .ok (.ireturn, 1) := by decide +kernel
theorem dX11_over_0 : decode cX11_over 0 = .ok (.aload_n 0, 1) := by decide +kernel
theorem dX11_over_1 : decode cX11_over 1 = .ok (.getfield 133, 3) := by decide +kernel
theorem dX11_over_4 : decode cX11_over 4 = .ok (.ifCond .ne 6, 3) := by decide +kernel
theorem dX11_over_7 : decode cX11_over 7 = .ok (.ldc 153, 2) := by decide +kernel
theorem dX11_over_9 : decode cX11_over 9 = .ok (.ireturn, 1) := by decide +kernel
theorem dX11_over_10 : decode cX11_over 10 = .ok (.iload_n 1, 1) := by decide +kernel
theorem dX11_over_11 : decode cX11_over 11 = .ok (.iconst 0, 1) := by decide +kernel
theorem dX11_over_12 : decode cX11_over 12 = .ok (.sipush 32767, 3) := by decide +kernel
theorem dX11_over_15 : decode cX11_over 15 = .ok (.invokestatic 70, 3) := by decide +kernel
theorem dX11_over_18 : decode cX11_over 18 = .ok (.ifCond .eq 12, 3) := by decide +kernel
theorem dX11_over_21 : decode cX11_over 21 = .ok (.iload_n 2, 1) := by decide +kernel
theorem dX11_over_22 : decode cX11_over 22 = .ok (.iconst 0, 1) := by decide +kernel
theorem dX11_over_23 : decode cX11_over 23 = .ok (.iconst 1, 1) := by decide +kernel
theorem dX11_over_24 : decode cX11_over 24 = .ok (.invokestatic 70, 3) := by decide +kernel
theorem dX11_over_27 : decode cX11_over 27 = .ok (.ifCond .ne 6, 3) := by decide +kernel
theorem dX11_over_30 : decode cX11_over 30 = .ok (.ldc 74, 2) := by decide +kernel
theorem dX11_over_32 : decode cX11_over 32 = .ok (.ireturn, 1) := by decide +kernel
theorem dX11_over_33 : decode cX11_over 33 = .ok (.ldc 213, 2) := by decide +kernel
theorem dX11_over_35 : decode cX11_over 35 = .ok (.istore_n 3, 1) := by decide +kernel
theorem dX11_over_36 : decode cX11_over 36 = .ok (.iconst 5, 1) := by decide +kernel
theorem dX11_over_37 : decode cX11_over 37 = .ok (.istore 4, 2) := by decide +kernel
theorem dX11_over_39 : decode cX11_over 39 = .ok (.iconst 0, 1) := by decide +kernel
theorem dX11_over_40 : decode cX11_over 40 = .ok (.istore 5, 2) := by decide +kernel
theorem dX11_over_42 : decode cX11_over 42 = .ok (.iload 5, 2) := by decide +kernel
theorem dX11_over_44 : decode cX11_over 44 = .ok (.aload_n 0, 1) := by decide +kernel
theorem dX11_over_45 : decode cX11_over 45 = .ok (.invokevirtual 229, 3) := by decide +kernel
theorem dX11_over_48 : decode cX11_over 48 = .ok (.if_icmp .gt 57, 3) := by decide +kernel
theorem dX11_over_51 : decode cX11_over 51 = .ok (.iload_n 1, 1) := by decide +kernel
theorem dX11_over_52 : decode cX11_over 52 = .ok (.aload_n 0, 1) := by decide +kernel
theorem dX11_over_53 : decode cX11_over 53 = .ok (.getfield 58, 3) := by decide +kernel
theorem dX11_over_56 : decode cX11_over 56 = .ok (.iload 5, 2) := by decide +kernel
theorem dX11_over_58 : decode cX11_over 58 = .ok (.invokevirtual 232, 3) := by decide +kernel
theorem dX11_over_61 : decode cX11_over 61 = .ok (.iconst (-1), 1) := by decide +kernel
theorem dX11_over_62 : decode cX11_over 62 = .ok (.ixor, 1) := by decide +kernel
theorem dX11_over_63 : decode cX11_over 63 = .ok (.iand, 1) := by decide +kernel
theorem dX11_over_64 : decode cX11_over 64 = .ok (.ifCond .ne 7, 3) := by decide +kernel
theorem dX11_over_67 : decode cX11_over 67 = .ok (.iconst 1, 1) := by decide +kernel
theorem dX11_over_68 : decode cX11_over 68 = .ok (.goto 4, 3) := by decide +kernel
theorem dX11_over_71 : decode cX11_over 71 = .ok (.iconst 0, 1) := by decide +kernel
theorem dX11_over_72 : decode cX11_over 72 = .ok (.istore 6, 2) := by decide +kernel
theorem dX11_over_74 : decode cX11_over 74 = .ok (.iload 6, 2) := by decide +kernel
theorem dX11_over_76 : decode cX11_over 76 = .ok (.ifCond .eq 23, 3) := by decide +kernel
theorem dX11_over_79 : decode cX11_over 79 = .ok (.iload 5, 2) := by decide +kernel
theorem dX11_over_81 : decode cX11_over 81 = .ok (.invokestatic 245, 3) := by decide +kernel
theorem dX11_over_84 : decode cX11_over 84 = .ok (.iload 4, 2) := by decide +kernel
theorem dX11_over_86 : decode cX11_over 86 = .ok (.if_icmp .ge 13, 3) := by decide +kernel
theorem dX11_over_89 : decode cX11_over 89 = .ok (.iload 5, 2) := by decide +kernel
theorem dX11_over_91 : decode cX11_over 91 = .ok (.istore_n 3, 1) := by decide +kernel
theorem dX11_over_92 : decode cX11_over 92 = .ok (.iload 5, 2) := by decide +kernel
theorem dX11_over_94 : decode cX11_over 94 = .ok (.invokestatic 245, 3) := by decide +kernel
theorem dX11_over_97 : decode cX11_over 97 = .ok (.istore 4, 2) := by decide +kernel
theorem dX11_over_99 : decode cX11_over 99 = .ok (.iinc 5 1, 3) := by decide +kernel
theorem dX11_over_102 : decode cX11_over 102 = .ok (.goto (-60), 3) := by decide +kernel
theorem dX11_over_105 : decode cX11_over 105 = .ok (.iload_n 3, 1) := by decide +kernel
theorem dX11_over_106 : decode cX11_over 106 = .ok (.ldc 213, 2) := by decide +kernel
theorem dX11_over_108 : decode cX11_over 108 = .ok (.if_icmp .eq 8, 3) := by decide +kernel
theorem dX11_over_111 : decode cX11_over 111 = .ok (.iload_n 2, 1) := by decide +kernel
theorem dX11_over_112 : decode cX11_over 112 = .ok (.iconst 1, 1) := by decide +kernel
theorem dX11_over_113 : decode cX11_over 113 = .ok (.if_icmp .ne 7, 3) := by decide +kernel
theorem dX11_over_116 : decode cX11_over 116 = .ok (.iload_n 3, 1) := by decide +kernel
theorem dX11_over_117 : decode cX11_over 117 = .ok (.goto 5, 3) := by decide +kernel
theorem dX11_over_120 : decode cX11_over 120 = .ok (.iload 4, 2) := by decide +kernel
theorem dX11_over_122 : decode cX11_over 122 = .ok (.ireturn, 1) := by decide +kernel
theorem dX11_goOn_0 : decode cX11_goOn 0 = .ok (.aload_n 0, 1) := by decide +kernel
theorem dX11_goOn_1 : decode cX11_goOn 1 = .ok (.getfield 133, 3) := by decide +kernel
theorem dX11_goOn_4 : decode cX11_goOn 4 = .ok (.ifCond .ne 6, 3) := by decide +kernel
theorem dX11_goOn_7 : decode cX11_goOn 7 = .ok (.ldc 153, 2) := by decide +kernel
theorem dX11_goOn_9 : decode cX11_goOn 9 = .ok (.ireturn, 1) := by decide +kernel
theorem dX11_goOn_10 : decode cX11_goOn 10 = .ok (.aload_n 0, 1) := by decide +kernel
theorem dX11_goOn_11 : decode cX11_goOn 11 = .ok (.iconst 1, 1) := by decide +kernel
theorem dX11_goOn_12 : decode cX11_goOn 12 = .ok (.invokevirtual 220, 3) := by decide +kernel
theorem dX11_goOn_15 : decode cX11_goOn 15 = .ok (.aload_n 0, 1) := by decide +kernel
theorem dX11_goOn_16 : decode cX11_goOn 16 = .ok (.getfield 39, 3) := by decide +kernel
theorem dX11_goOn_19 : decode cX11_goOn 19 = .ok (.invokevirtual 198, 3) := by decide +kernel
theorem dX11_goOn_22 : decode cX11_goOn 22 = .ok (.istore_n 1, 1) := by decide +kernel
theorem dX11_goOn_23 : decode cX11_goOn 23 = .ok (.aload_n 0, 1) := by decide +kernel
theorem dX11_goOn_24 : decode cX11_goOn 24 = .ok (.getfield 39, 3) := by decide +kernel
theorem dX11_goOn_27 : decode cX11_goOn 27 = .ok (.aload_n 0, 1) := by decide +kernel
theorem dX11_goOn_28 : decode cX11_goOn 28 = .ok (.getfield 58, 3) := by decide +kernel
theorem dX11_goOn_31 : decode cX11_goOn 31 = .ok (.getfield 157, 3) := by decide +kernel
theorem dX11_goOn_34 : decode cX11_goOn 34 = .ok (.invokevirtual 160, 3) := by decide +kernel
theorem dX11_goOn_37 : decode cX11_goOn 37 = .ok (.aload_n 0, 1) := by decide +kernel
theorem dX11_goOn_38 : decode cX11_goOn 38 = .ok (.getfield 39, 3) := by decide +kernel
theorem dX11_goOn_41 : decode cX11_goOn 41 = .ok (.aload_n 0, 1) := by decide +kernel
theorem dX11_goOn_42 : decode cX11_goOn 42 = .ok (.getfield 58, 3) := by decide +kernel
theorem dX11_goOn_45 : decode cX11_goOn 45 = .ok (.getfield 192, 3) := by decide +kernel
theorem dX11_goOn_48 : decode cX11_goOn 48 = .ok (.invokevirtual 195, 3) := by decide +kernel
theorem dX11_goOn_51 : decode cX11_goOn 51 = .ok (.aload_n 0, 1) := by decide +kernel
theorem dX11_goOn_52 : decode cX11_goOn 52 = .ok (.getfield 58, 3) := by decide +kernel
theorem dX11_goOn_55 : decode cX11_goOn 55 = .ok (.aload_n 0, 1) := by decide +kernel
theorem dX11_goOn_56 : decode cX11_goOn 56 = .ok (.getfield 39, 3) := by decide +kernel
theorem dX11_goOn_59 : decode cX11_goOn 59 = .ok (.invokevirtual 238, 3) := by decide +kernel
theorem dX11_goOn_62 : decode cX11_goOn 62 = .ok (.iload_n 1, 1) := by decide +kernel
theorem dX11_goOn_63 : decode cX11_goOn 63 = .ok (.aload_n 0, 1) := by decide +kernel
theorem dX11_goOn_64 : decode cX11_goOn 64 = .ok (.getfield 39, 3) := by decide +kernel
theorem dX11_goOn_67 : decode cX11_goOn 67 = .ok (.invokevirtual 198, 3) := by decide +kernel
theorem dX11_goOn_70 : decode cX11_goOn 70 = .ok (.isub, 1) := by decide +kernel
theorem dX11_goOn_71 : decode cX11_goOn 71 = .ok (.ireturn, 1) := by decide +kernel
theorem dX11_done_0 : decode cX11_done 0 = .ok (.aload_n 0, 1) := by decide +kernel
theorem dX11_done_1 : decode cX11_done 1 = .ok (.getfield 133, 3) := by decide +kernel
theorem dX11_done_4 : decode cX11_done 4 = .ok (.ifCond .ne 6, 3) := by decide +kernel
theorem dX11_done_7 : decode cX11_done 7 = .ok (.ldc 153, 2) := by decide +kernel
theorem dX11_done_9 : decode cX11_done 9 = .ok (.ireturn, 1) := by decide +kernel
theorem dX11_done_10 : decode cX11_done 10 = .ok (.iload_n 1, 1) := by decide +kernel
theorem dX11_done_11 : decode cX11_done 11 = .ok (.invokestatic 66, 3) := by decide +kernel
theorem dX11_done_14 : decode cX11_done 14 = .ok (.ifCond .eq 12, 3) := by decide +kernel
theorem dX11_done_17 : decode cX11_done 17 = .ok (.iload_n 3, 1) := by decide +kernel
theorem dX11_done_18 : decode cX11_done 18 = .ok (.iconst 0, 1) := by decide +kernel
theorem dX11_done_19 : decode cX11_done 19 = .ok (.iconst 1, 1) := by decide +kernel
theorem dX11_done_20 : decode cX11_done 20 = .ok (.invokestatic 70, 3) := by decide +kernel
theorem dX11_done_23 : decode cX11_done 23 = .ok (.ifCond .ne 6, 3) := by decide +kernel
theorem dX11_done_26 : decode cX11_done 26 = .ok (.ldc 74, 2) := by decide +kernel
theorem dX11_done_28 : decode cX11_done 28 = .ok (.ireturn, 1) := by decide +kernel
theorem dX11_done_29 : decode cX11_done 29 = .ok (.aload_n 0, 1) := by decide +kernel
theorem dX11_done_30 : decode cX11_done 30 = .ok (.getfield 11, 3) := by decide +kernel
theorem dX11_done_33 : decode cX11_done 33 = .ok (.iload_n 1, 1) := by decide +kernel
theorem dX11_done_34 : decode cX11_done 34 = .ok (.aaload, 1) := by decide +kernel
theorem dX11_done_35 : decode cX11_done 35 = .ok (.astore 4, 2) := by decide +kernel
theorem dX11_done_37 : decode cX11_done 37 = .ok (.aload 4, 2) := by decide +kernel
theorem dX11_done_39 : decode cX11_done 39 = .ok (.invokevirtual 86, 3) := by decide +kernel
theorem dX11_done_42 : decode cX11_done 42 = .ok (.ifCond .eq 9, 3) := by decide +kernel
theorem dX11_done_45 : decode cX11_done 45 = .ok (.aload_n 0, 1) := by decide +kernel
theorem dX11_done_46 : decode cX11_done 46 = .ok (.iconst 1, 1) := by decide +kernel
theorem dX11_done_47 : decode cX11_done 47 = .ok (.invokevirtual 75, 3) := by decide +kernel
theorem dX11_done_50 : decode cX11_done 50 = .ok (.ireturn, 1) := by decide +kernel
theorem dX11_done_51 : decode cX11_done 51 = .ok (.aload 4, 2) := by decide +kernel
theorem dX11_done_53 : decode cX11_done 53 = .ok (.iload_n 2, 1) := by decide +kernel
theorem dX11_done_54 : decode cX11_done 54 = .ok (.bipush 15, 2) := by decide +kernel
theorem dX11_done_56 : decode cX11_done 56 = .ok (.invokevirtual 90, 3) := by decide +kernel
theorem dX11_done_59 : decode cX11_done 59 = .ok (.ifCond .ne 9, 3) := by decide +kernel
theorem dX11_done_62 : decode cX11_done 62 = .ok (.aload_n 0, 1) := by decide +kernel
theorem dX11_done_63 : decode cX11_done 63 = .ok (.iconst 2, 1) := by decide +kernel
theorem dX11_done_64 : decode cX11_done 64 = .ok (.invokevirtual 75, 3) := by decide +kernel
theorem dX11_done_67 : decode cX11_done 67 = .ok (.ireturn, 1) := by decide +kernel
theorem dX11_done_68 : decode cX11_done 68 = .ok (.iconst 0, 1) := by decide +kernel
theorem dX11_done_69 : decode cX11_done 69 = .ok (.istore 5, 2) := by decide +kernel
theorem dX11_done_71 : decode cX11_done 71 = .ok (.ldc 213, 2) := by decide +kernel
theorem dX11_done_73 : decode cX11_done 73 = .ok (.istore 6, 2) := by decide +kernel
theorem dX11_done_75 : decode cX11_done 75 = .ok (.aload_n 0, 1) := by decide +kernel
theorem dX11_done_76 : decode cX11_done 76 = .ok (.invokevirtual 229, 3) := by decide +kernel
theorem dX11_done_79 : decode cX11_done 79 = .ok (.istore 7, 2) := by decide +kernel
theorem dX11_done_81 : decode cX11_done 81 = .ok (.iload 7, 2) := by decide +kernel
theorem dX11_done_83 : decode cX11_done 83 = .ok (.ifCond .lt 56, 3) := by decide +kernel
theorem dX11_done_86 : decode cX11_done 86 = .ok (.aload_n 0, 1) := by decide +kernel
theorem dX11_done_87 : decode cX11_done 87 = .ok (.getfield 39, 3) := by decide +kernel
theorem dX11_done_90 : decode cX11_done 90 = .ok (.aload_n 0, 1) := by decide +kernel
theorem dX11_done_91 : decode cX11_done 91 = .ok (.getfield 58, 3) := by decide +kernel
theorem dX11_done_94 : decode cX11_done 94 = .ok (.getfield 157, 3) := by decide +kernel
theorem dX11_done_97 : decode cX11_done 97 = .ok (.invokevirtual 160, 3) := by decide +kernel
theorem dX11_done_100 : decode cX11_done 100 = .ok (.aload_n 0, 1) := by decide +kernel
theorem dX11_done_101 : decode cX11_done 101 = .ok (.getfield 58, 3) := by decide +kernel
theorem dX11_done_104 : decode cX11_done 104 = .ok (.iload 7, 2) := by decide +kernel
theorem dX11_done_106 : decode cX11_done 106 = .ok (.aload_n 0, 1) := by decide +kernel
theorem dX11_done_107 : decode cX11_done 107 = .ok (.getfield 39, 3) := by decide +kernel
theorem dX11_done_110 : decode cX11_done 110 = .ok (.invokevirtual 250, 3) := by decide +kernel
theorem dX11_done_113 : decode cX11_done 113 = .ok (.aload 4, 2) := by decide +kernel
theorem dX11_done_115 : decode cX11_done 115 = .ok (.iload_n 2, 1) := by decide +kernel
theorem dX11_done_116 : decode cX11_done 116 = .ok (.aload_n 0, 1) := by decide +kernel
theorem dX11_done_117 : decode cX11_done 117 = .ok (.getfield 39, 3) := by decide +kernel
theorem dX11_done_120 : decode cX11_done 120 = .ok (.invokevirtual 254, 3) := by decide +kernel
theorem dX11_done_123 : decode cX11_done 123 = .ok (.ifCond .eq 10, 3) := by decide +kernel
theorem dX11_done_126 : decode cX11_done 126 = .ok (.iinc 5 1, 3) := by decide +kernel
theorem dX11_done_129 : decode cX11_done 129 = .ok (.iload 7, 2) := by decide +kernel
theorem dX11_done_131 : decode cX11_done 131 = .ok (.istore 6, 2) := by decide +kernel
theorem dX11_done_133 : decode cX11_done 133 = .ok (.iinc 7 (-1), 3) := by decide +kernel
theorem dX11_done_136 : decode cX11_done 136 = .ok (.goto (-55), 3) := by decide +kernel
theorem dX11_done_139 : decode cX11_done 139 = .ok (.aload_n 0, 1) := by decide +kernel
theorem dX11_done_140 : decode cX11_done 140 = .ok (.iload_n 3, 1) := by decide +kernel
theorem dX11_done_141 : decode cX11_done 141 = .ok (.ifCond .ne 8, 3) := by decide +kernel
theorem dX11_done_144 : decode cX11_done 144 = .ok (.iload 5, 2) := by decide +kernel
theorem dX11_done_146 : decode cX11_done 146 = .ok (.goto 5, 3) := by decide +kernel
theorem dX11_done_149 : decode cX11_done 149 = .ok (.iload 6, 2) := by decide +kernel
theorem dX11_done_151 : decode cX11_done 151 = .ok (.invokevirtual 83, 3) := by decide +kernel
theorem dX11_done_154 : decode cX11_done 154 = .ok (.ireturn, 1) := by decide +kernel
theorem dX11_cups_0 : decode cX11_cups 0 = .ok (.aload_n 0, 1) := by decide +kernel
theorem dX11_cups_1 : decode cX11_cups 1 = .ok (.getfield 133, 3) := by decide +kernel
theorem dX11_cups_4 : decode cX11_cups 4 = .ok (.ifCond .ne 6, 3) := by decide +kernel
theorem dX11_cups_7 : decode cX11_cups 7 = .ok (.ldc 153, 2) := by decide +kernel
theorem dX11_cups_9 : decode cX11_cups 9 = .ok (.ireturn, 1) := by decide +kernel
theorem dX11_cups_10 : decode cX11_cups 10 = .ok (.iload_n 1, 1) := by decide +kernel
theorem dX11_cups_11 : decode cX11_cups 11 = .ok (.iconst 0, 1) := by decide +kernel
theorem dX11_cups_12 : decode cX11_cups 12 = .ok (.sipush 32767, 3) := by decide +kernel
theorem dX11_cups_15 : decode cX11_cups 15 = .ok (.invokestatic 70, 3) := by decide +kernel
theorem dX11_cups_18 : decode cX11_cups 18 = .ok (.ifCond .eq 14, 3) := by decide +kernel
theorem dX11_cups_21 : decode cX11_cups 21 = .ok (.iload_n 2, 1) := by decide +kernel
theorem dX11_cups_22 : decode cX11_cups 22 = .ok (.iconst 1, 1) := by decide +kernel
theorem dX11_cups_23 : decode cX11_cups 23 = .ok (.sipush 999, 3) := by decide +kernel
theorem dX11_cups_26 : decode cX11_cups 26 = .ok (.invokestatic 70, 3) := by decide +kernel
theorem dX11_cups_29 : decode cX11_cups 29 = .ok (.ifCond .ne 6, 3) := by decide +kernel
theorem dX11_cups_32 : decode cX11_cups 32 = .ok (.ldc 74, 2) := by decide +kernel
theorem dX11_cups_34 : decode cX11_cups 34 = .ok (.ireturn, 1) := by decide +kernel
theorem dX11_cups_35 : decode cX11_cups 35 = .ok (.aload_n 0, 1) := by decide +kernel
theorem dX11_cups_36 : decode cX11_cups 36 = .ok (.getfield 58, 3) := by decide +kernel
theorem dX11_cups_39 : decode cX11_cups 39 = .ok (.getfield 157, 3) := by decide +kernel
theorem dX11_cups_42 : decode cX11_cups 42 = .ok (.iload_n 2, 1) := by decide +kernel
theorem dX11_cups_43 : decode cX11_cups 43 = .ok (.iload_n 1, 1) := by decide +kernel
theorem dX11_cups_44 : decode cX11_cups 44 = .ok (.invokevirtual 235, 3) := by decide +kernel
theorem dX11_cups_47 : decode cX11_cups 47 = .ok (.ireturn, 1) := by decide +kernel
theorem dX11_thin_0 : decode cX11_thin 0 = .ok (.aload_n 0, 1) := by decide +kernel
theorem dX11_thin_1 : decode cX11_thin 1 = .ok (.getfield 133, 3) := by decide +kernel
theorem dX11_thin_4 : decode cX11_thin 4 = .ok (.ifCond .ne 6, 3) := by decide +kernel
theorem dX11_thin_7 : decode cX11_thin 7 = .ok (.ldc 153, 2) := by decide +kernel
theorem dX11_thin_9 : decode cX11_thin 9 = .ok (.ireturn, 1) := by decide +kernel
theorem dX11_thin_10 : decode cX11_thin 10 = .ok (.aload_n 0, 1) := by decide +kernel
theorem dX11_thin_11 : decode cX11_thin 11 = .ok (.getfield 58, 3) := by decide +kernel
theorem dX11_thin_14 : decode cX11_thin 14 = .ok (.getfield 157, 3) := by decide +kernel
theorem dX11_thin_17 : decode cX11_thin 17 = .ok (.invokevirtual 258, 3) := by decide +kernel
theorem dX11_thin_20 : decode cX11_thin 20 = .ok (.ireturn, 1) := by decide +kernel
theorem dX11_dust_0 : decode cX11_dust 0 = .ok (.iload_n 1, 1) := by decide +kernel
theorem dX11_dust_1 : decode cX11_dust 1 = .ok (.iconst 0, 1) := by decide +kernel
theorem dX11_dust_2 : decode cX11_dust 2 = .ok (.bipush 10, 2) := by decide +kernel
theorem dX11_dust_4 : decode cX11_dust 4 = .ok (.invokestatic 70, 3) := by decide +kernel
theorem dX11_dust_7 : decode cX11_dust 7 = .ok (.ifCond .eq 32, 3) := by decide +kernel
theorem dX11_dust_10 : decode cX11_dust 10 = .ok (.iload_n 2, 1) := by decide +kernel
theorem dX11_dust_11 : decode cX11_dust 11 = .ok (.iconst 0, 1) := by decide +kernel
theorem dX11_dust_12 : decode cX11_dust 12 = .ok (.bipush 10, 2) := by decide +kernel
theorem dX11_dust_14 : decode cX11_dust 14 = .ok (.invokestatic 70, 3) := by decide +kernel
theorem dX11_dust_17 : decode cX11_dust 17 = .ok (.ifCond .eq 22, 3) := by decide +kernel
theorem dX11_dust_20 : decode cX11_dust 20 = .ok (.iload_n 3, 1) := by decide +kernel
theorem dX11_dust_21 : decode cX11_dust 21 = .ok (.iconst 0, 1) := by decide +kernel
theorem dX11_dust_22 : decode cX11_dust 22 = .ok (.iload_n 2, 1) := by decide +kernel
theorem dX11_dust_23 : decode cX11_dust 23 = .ok (.invokestatic 70, 3) := by decide +kernel
theorem dX11_dust_26 : decode cX11_dust 26 = .ok (.ifCond .eq 13, 3) := by decide +kernel
theorem dX11_dust_29 : decode cX11_dust 29 = .ok (.iload 4, 2) := by decide +kernel
theorem dX11_dust_31 : decode cX11_dust 31 = .ok (.iconst 0, 1) := by decide +kernel
theorem dX11_dust_32 : decode cX11_dust 32 = .ok (.iconst 1, 1) := by decide +kernel
theorem dX11_dust_33 : decode cX11_dust 33 = .ok (.invokestatic 70, 3) := by decide +kernel
theorem dX11_dust_36 : decode cX11_dust 36 = .ok (.ifCond .ne 7, 3) := by decide +kernel
theorem dX11_dust_39 : decode cX11_dust 39 = .ok (.ldc2_w 261, 3) := by decide +kernel
theorem dX11_dust_42 : decode cX11_dust 42 = .ok (.lreturn, 1) := by decide +kernel
theorem dX11_dust_43 : decode cX11_dust 43 = .ok (.lconst 1, 1) := by decide +kernel
theorem dX11_dust_44 : decode cX11_dust 44 = .ok (.lstore 5, 2) := by decide +kernel
theorem dX11_dust_46 : decode cX11_dust 46 = .ok (.lconst 0, 1) := by decide +kernel
theorem dX11_dust_47 : decode cX11_dust 47 = .ok (.lstore 7, 2) := by decide +kernel
theorem dX11_dust_49 : decode cX11_dust 49 = .ok (.iconst 0, 1) := by decide +kernel
theorem dX11_dust_50 : decode cX11_dust 50 = .ok (.istore 9, 2) := by decide +kernel
theorem dX11_dust_52 : decode cX11_dust 52 = .ok (.iload 9, 2) := by decide +kernel
theorem dX11_dust_54 : decode cX11_dust 54 = .ok (.iload_n 2, 1) := by decide +kernel
theorem dX11_dust_55 : decode cX11_dust 55 = .ok (.if_icmp .gt 59, 3) := by decide +kernel
theorem dX11_dust_58 : decode cX11_dust 58 = .ok (.iload 9, 2) := by decide +kernel
theorem dX11_dust_60 : decode cX11_dust 60 = .ok (.iload_n 3, 1) := by decide +kernel
theorem dX11_dust_61 : decode cX11_dust 61 = .ok (.if_icmp .lt 31, 3) := by decide +kernel
theorem dX11_dust_64 : decode cX11_dust 64 = .ok (.lload 7, 2) := by decide +kernel
theorem dX11_dust_66 : decode cX11_dust 66 = .ok (.lload 5, 2) := by decide +kernel
theorem dX11_dust_68 : decode cX11_dust 68 = .ok (.iload_n 1, 1) := by decide +kernel
theorem dX11_dust_69 : decode cX11_dust 69 = .ok (.i2l, 1) := by decide +kernel
theorem dX11_dust_70 : decode cX11_dust 70 = .ok (.iload 9, 2) := by decide +kernel
theorem dX11_dust_72 : decode cX11_dust 72 = .ok (.invokestatic 263, 3) := by decide +kernel
theorem dX11_dust_75 : decode cX11_dust 75 = .ok (.lmul, 1) := by decide +kernel
theorem dX11_dust_76 : decode cX11_dust 76 = .ok (.bipush 10, 2) := by decide +kernel
theorem dX11_dust_78 : decode cX11_dust 78 = .ok (.iload_n 1, 1) := by decide +kernel
theorem dX11_dust_79 : decode cX11_dust 79 = .ok (.isub, 1) := by decide +kernel
theorem dX11_dust_80 : decode cX11_dust 80 = .ok (.i2l, 1) := by decide +kernel
theorem dX11_dust_81 : decode cX11_dust 81 = .ok (.iload_n 2, 1) := by decide +kernel
theorem dX11_dust_82 : decode cX11_dust 82 = .ok (.iload 9, 2) := by decide +kernel
theorem dX11_dust_84 : decode cX11_dust 84 = .ok (.isub, 1) := by decide +kernel
theorem dX11_dust_85 : decode cX11_dust 85 = .ok (.invokestatic 263, 3) := by decide +kernel
theorem dX11_dust_88 : decode cX11_dust 88 = .ok (.lmul, 1) := by decide +kernel
theorem dX11_dust_89 : decode cX11_dust 89 = .ok (.ladd, 1) := by decide +kernel
theorem dX11_dust_90 : decode cX11_dust 90 = .ok (.lstore 7, 2) := by decide +kernel
theorem dX11_dust_92 : decode cX11_dust 92 = .ok (.lload 5, 2) := by decide +kernel
theorem dX11_dust_94 : decode cX11_dust 94 = .ok (.iload_n 2, 1) := by decide +kernel
theorem dX11_dust_95 : decode cX11_dust 95 = .ok (.iload 9, 2) := by decide +kernel
theorem dX11_dust_97 : decode cX11_dust 97 = .ok (.isub, 1) := by decide +kernel
theorem dX11_dust_98 : decode cX11_dust 98 = .ok (.i2l, 1) := by decide +kernel
theorem dX11_dust_99 : decode cX11_dust 99 = .ok (.lmul, 1) := by decide +kernel
theorem dX11_dust_100 : decode cX11_dust 100 = .ok (.iload 9, 2) := by decide +kernel
theorem dX11_dust_102 : decode cX11_dust 102 = .ok (.iconst 1, 1) := by decide +kernel
theorem dX11_dust_103 : decode cX11_dust 103 = .ok (.iadd, 1) := by decide +kernel
theorem dX11_dust_104 : decode cX11_dust 104 = .ok (.i2l, 1) := by decide +kernel
theorem dX11_dust_105 : decode cX11_dust 105 = .ok (.ldiv, 1) := by decide +kernel
theorem dX11_dust_106 : decode cX11_dust 106 = .ok (.lstore 5, 2) := by decide +kernel
theorem dX11_dust_108 : decode cX11_dust 108 = .ok (.iinc 9 1, 3) := by decide +kernel
theorem dX11_dust_111 : decode cX11_dust 111 = .ok (.goto (-59), 3) := by decide +kernel
theorem dX11_dust_114 : decode cX11_dust 114 = .ok (.ldc2_w 267, 3) := by decide +kernel
theorem dX11_dust_117 : decode cX11_dust 117 = .ok (.iload_n 2, 1) := by decide +kernel
theorem dX11_dust_118 : decode cX11_dust 118 = .ok (.invokestatic 263, 3) := by decide +kernel
theorem dX11_dust_121 : decode cX11_dust 121 = .ok (.lstore 9, 2) := by decide +kernel
theorem dX11_dust_123 : decode cX11_dust 123 = .ok (.lload 7, 2) := by decide +kernel
theorem dX11_dust_125 : decode cX11_dust 125 = .ok (.lload 9, 2) := by decide +kernel
theorem dX11_dust_127 : decode cX11_dust 127 = .ok (.invokestatic 269, 3) := by decide +kernel
theorem dX11_dust_130 : decode cX11_dust 130 = .ok (.lstore 11, 2) := by decide +kernel
theorem dX11_dust_132 : decode cX11_dust 132 = .ok (.iload 4, 2) := by decide +kernel
theorem dX11_dust_134 : decode cX11_dust 134 = .ok (.ifCond .ne 8, 3) := by decide +kernel
theorem dX11_dust_137 : decode cX11_dust 137 = .ok (.lload 7, 2) := by decide +kernel
theorem dX11_dust_139 : decode cX11_dust 139 = .ok (.goto 5, 3) := by decide +kernel
theorem dX11_dust_142 : decode cX11_dust 142 = .ok (.lload 9, 2) := by decide +kernel
theorem dX11_dust_144 : decode cX11_dust 144 = .ok (.lload 11, 2) := by decide +kernel
theorem dX11_dust_146 : decode cX11_dust 146 = .ok (.ldiv, 1) := by decide +kernel
theorem dX11_dust_147 : decode cX11_dust 147 = .ok (.lreturn, 1) := by decide +kernel
theorem dX11_evenings_0 : decode cX11_evenings 0 = .ok (.aload_n 0, 1) := by decide +kernel
theorem dX11_evenings_1 : decode cX11_evenings 1 = .ok (.getfield 133, 3) := by decide +kernel
theorem dX11_evenings_4 : decode cX11_evenings 4 = .ok (.ifCond .ne 6, 3) := by decide +kernel
theorem dX11_evenings_7 : decode cX11_evenings 7 = .ok (.ldc 153, 2) := by decide +kernel
theorem dX11_evenings_9 : decode cX11_evenings 9 = .ok (.ireturn, 1) := by decide +kernel
theorem dX11_evenings_10 : decode cX11_evenings 10 = .ok (.iload_n 1, 1) := by decide +kernel
theorem dX11_evenings_11 : decode cX11_evenings 11 = .ok (.iconst 0, 1) := by decide +kernel
theorem dX11_evenings_12 : decode cX11_evenings 12 = .ok (.bipush 30, 2) := by decide +kernel
theorem dX11_evenings_14 : decode cX11_evenings 14 = .ok (.invokestatic 70, 3) := by decide +kernel
theorem dX11_evenings_17 : decode cX11_evenings 17 = .ok (.ifCond .eq 23, 3) := by decide +kernel
theorem dX11_evenings_20 : decode cX11_evenings 20 = .ok (.iload_n 2, 1) := by decide +kernel
theorem dX11_evenings_21 : decode cX11_evenings 21 = .ok (.iconst 1, 1) := by decide +kernel
theorem dX11_evenings_22 : decode cX11_evenings 22 = .ok (.ldc_w 273, 3) := by decide +kernel
theorem dX11_evenings_25 : decode cX11_evenings 25 = .ok (.invokestatic 70, 3) := by decide +kernel
theorem dX11_evenings_28 : decode cX11_evenings 28 = .ok (.ifCond .eq 12, 3) := by decide +kernel
theorem dX11_evenings_31 : decode cX11_evenings 31 = .ok (.iload_n 3, 1) := by decide +kernel
theorem dX11_evenings_32 : decode cX11_evenings 32 = .ok (.iconst 0, 1) := by decide +kernel
theorem dX11_evenings_33 : decode cX11_evenings 33 = .ok (.iconst 1, 1) := by decide +kernel
theorem dX11_evenings_34 : decode cX11_evenings 34 = .ok (.invokestatic 70, 3) := by decide +kernel
theorem dX11_evenings_37 : decode cX11_evenings 37 = .ok (.ifCond .ne 6, 3) := by decide +kernel
theorem dX11_evenings_40 : decode cX11_evenings 40 = .ok (.ldc 74, 2) := by decide +kernel
theorem dX11_evenings_42 : decode cX11_evenings 42 = .ok (.ireturn, 1) := by decide +kernel
theorem dX11_evenings_43 : decode cX11_evenings 43 = .ok (.aload_n 0, 1) := by decide +kernel
theorem dX11_evenings_44 : decode cX11_evenings 44 = .ok (.getfield 39, 3) := by decide +kernel
theorem dX11_evenings_47 : decode cX11_evenings 47 = .ok (.aload_n 0, 1) := by decide +kernel
theorem dX11_evenings_48 : decode cX11_evenings 48 = .ok (.getfield 58, 3) := by decide +kernel
theorem dX11_evenings_51 : decode cX11_evenings 51 = .ok (.getfield 157, 3) := by decide +kernel
theorem dX11_evenings_54 : decode cX11_evenings 54 = .ok (.invokevirtual 160, 3) := by decide +kernel
theorem dX11_evenings_57 : decode cX11_evenings 57 = .ok (.aload_n 0, 1) := by decide +kernel
theorem dX11_evenings_58 : decode cX11_evenings 58 = .ok (.getfield 58, 3) := by decide +kernel
theorem dX11_evenings_61 : decode cX11_evenings 61 = .ok (.getfield 140, 3) := by decide +kernel
theorem dX11_evenings_64 : decode cX11_evenings 64 = .ok (.invokevirtual 144, 3) := by decide +kernel
theorem dX11_evenings_67 : decode cX11_evenings 67 = .ok (.istore 4, 2) := by decide +kernel
theorem dX11_evenings_69 : decode cX11_evenings 69 = .ok (.iload_n 2, 1) := by decide +kernel
theorem dX11_evenings_70 : decode cX11_evenings 70 = .ok (.i2l, 1) := by decide +kernel
theorem dX11_evenings_71 : decode cX11_evenings 71 = .ok (.lstore 5, 2) := by decide +kernel
theorem dX11_evenings_73 : decode cX11_evenings 73 = .ok (.iconst 0, 1) := by decide +kernel
theorem dX11_evenings_74 : decode cX11_evenings 74 = .ok (.istore 7, 2) := by decide +kernel
theorem dX11_evenings_76 : decode cX11_evenings 76 = .ok (.iload 7, 2) := by decide +kernel
theorem dX11_evenings_78 : decode cX11_evenings 78 = .ok (.iload_n 1, 1) := by decide +kernel
theorem dX11_evenings_79 : decode cX11_evenings 79 = .ok (.if_icmp .ge 78, 3) := by decide +kernel
theorem dX11_evenings_82 : decode cX11_evenings 82 = .ok (.lload 5, 2) := by decide +kernel
theorem dX11_evenings_84 : decode cX11_evenings 84 = .ok (.ldc2_w 274, 3) := by decide +kernel
theorem dX11_evenings_87 : decode cX11_evenings 87 = .ok (.lmul, 1) := by decide +kernel
theorem dX11_evenings_88 : decode cX11_evenings 88 = .ok (.ldc2_w 276, 3) := by decide +kernel
theorem dX11_evenings_91 : decode cX11_evenings 91 = .ok (.lrem, 1) := by decide +kernel
theorem dX11_evenings_92 : decode cX11_evenings 92 = .ok (.lstore 5, 2) := by decide +kernel
theorem dX11_evenings_94 : decode cX11_evenings 94 = .ok (.iload 4, 2) := by decide +kernel
theorem dX11_evenings_96 : decode cX11_evenings 96 = .ok (.ifCond .le 30, 3) := by decide +kernel
theorem dX11_evenings_99 : decode cX11_evenings 99 = .ok (.aload_n 0, 1) := by decide +kernel
theorem dX11_evenings_100 : decode cX11_evenings 100 = .ok (.getfield 58, 3) := by decide +kernel
theorem dX11_evenings_103 : decode cX11_evenings 103 = .ok (.getfield 140, 3) := by decide +kernel
theorem dX11_evenings_106 : decode cX11_evenings 106 = .ok (.lload 5, 2) := by decide +kernel
theorem dX11_evenings_108 : decode cX11_evenings 108 = .ok (.iload 4, 2) := by decide +kernel
theorem dX11_evenings_110 : decode cX11_evenings 110 = .ok (.i2l, 1) := by decide +kernel
theorem dX11_evenings_111 : decode cX11_evenings 111 = .ok (.lrem, 1) := by decide +kernel
theorem dX11_evenings_112 : decode cX11_evenings 112 = .ok (.l2i, 1) := by decide +kernel
theorem dX11_evenings_113 : decode cX11_evenings 113 = .ok (.invokevirtual 278, 3) := by decide +kernel
theorem dX11_evenings_116 : decode cX11_evenings 116 = .ok (.checkcast 178, 3) := by decide +kernel
theorem dX11_evenings_119 : decode cX11_evenings 119 = .ok (.aload_n 0, 1) := by decide +kernel
theorem dX11_evenings_120 : decode cX11_evenings 120 = .ok (.getfield 39, 3) := by decide +kernel
theorem dX11_evenings_123 : decode cX11_evenings 123 = .ok (.invokevirtual 177, 3) := by decide +kernel
theorem dX11_evenings_126 : decode cX11_evenings 126 = .ok (.lload 5, 2) := by decide +kernel
theorem dX11_evenings_128 : decode cX11_evenings 128 = .ok (.ldc2_w 282, 3) := by decide +kernel
theorem dX11_evenings_131 : decode cX11_evenings 131 = .ok (.lrem, 1) := by decide +kernel
theorem dX11_evenings_132 : decode cX11_evenings 132 = .ok (.lconst 0, 1) := by decide +kernel
theorem dX11_evenings_133 : decode cX11_evenings 133 = .ok (.lcmp, 1) := by decide +kernel
theorem dX11_evenings_134 : decode cX11_evenings 134 = .ok (.ifCond .ne 17, 3) := by decide +kernel
theorem dX11_evenings_137 : decode cX11_evenings 137 = .ok (.aload_n 0, 1) := by decide +kernel
theorem dX11_evenings_138 : decode cX11_evenings 138 = .ok (.getfield 39, 3) := by decide +kernel
theorem dX11_evenings_141 : decode cX11_evenings 141 = .ok (.lload 5, 2) := by decide +kernel
theorem dX11_evenings_143 : decode cX11_evenings 143 = .ok (.ldc2_w 284, 3) := by decide +kernel
theorem dX11_evenings_146 : decode cX11_evenings 146 = .ok (.lrem, 1) := by decide +kernel
theorem dX11_evenings_147 : decode cX11_evenings 147 = .ok (.l2i, 1) := by decide +kernel
theorem dX11_evenings_148 : decode cX11_evenings 148 = .ok (.invokevirtual 185, 3) := by decide +kernel
theorem dX11_evenings_151 : decode cX11_evenings 151 = .ok (.iinc 7 1, 3) := by decide +kernel
theorem dX11_evenings_154 : decode cX11_evenings 154 = .ok (.goto (-78), 3) := by decide +kernel
theorem dX11_evenings_157 : decode cX11_evenings 157 = .ok (.iload_n 3, 1) := by decide +kernel
theorem dX11_evenings_158 : decode cX11_evenings 158 = .ok (.ifCond .ne 13, 3) := by decide +kernel
theorem dX11_evenings_161 : decode cX11_evenings 161 = .ok (.aload_n 0, 1) := by decide +kernel
theorem dX11_evenings_162 : decode cX11_evenings 162 = .ok (.getfield 39, 3) := by decide +kernel
theorem dX11_evenings_165 : decode cX11_evenings 165 = .ok (.invokevirtual 198, 3) := by decide +kernel
theorem dX11_evenings_168 : decode cX11_evenings 168 = .ok (.goto 10, 3) := by decide +kernel
theorem dX11_evenings_171 : decode cX11_evenings 171 = .ok (.aload_n 0, 1) := by decide +kernel
theorem dX11_evenings_172 : decode cX11_evenings 172 = .ok (.getfield 39, 3) := by decide +kernel
theorem dX11_evenings_175 : decode cX11_evenings 175 = .ok (.invokevirtual 223, 3) := by decide +kernel
theorem dX11_evenings_178 : decode cX11_evenings 178 = .ok (.ireturn, 1) := by decide +kernel
theorem dX11_image_0 : decode cX11_image 0 = .ok (.iload_n 1, 1) := by decide +kernel
theorem dX11_image_1 : decode cX11_image 1 = .ok (.iconst 0, 1) := by decide +kernel
theorem dX11_image_2 : decode cX11_image 2 = .ok (.iconst 1, 1) := by decide +kernel
theorem dX11_image_3 : decode cX11_image 3 = .ok (.invokestatic 70, 3) := by decide +kernel
theorem dX11_image_6 : decode cX11_image 6 = .ok (.ifCond .ne 6, 3) := by decide +kernel
theorem dX11_image_9 : decode cX11_image 9 = .ok (.ldc 74, 2) := by decide +kernel
theorem dX11_image_11 : decode cX11_image 11 = .ok (.ireturn, 1) := by decide +kernel
theorem dX11_image_12 : decode cX11_image 12 = .ok (.aload_n 0, 1) := by decide +kernel
theorem dX11_image_13 : decode cX11_image 13 = .ok (.getfield 133, 3) := by decide +kernel
theorem dX11_image_16 : decode cX11_image 16 = .ok (.ifCond .ne 6, 3) := by decide +kernel
theorem dX11_image_19 : decode cX11_image 19 = .ok (.ldc 153, 2) := by decide +kernel
theorem dX11_image_21 : decode cX11_image 21 = .ok (.ireturn, 1) := by decide +kernel
theorem dX11_image_22 : decode cX11_image 22 = .ok (.aload_n 0, 1) := by decide +kernel
theorem dX11_image_23 : decode cX11_image 23 = .ok (.getfield 24, 3) := by decide +kernel
theorem dX11_image_26 : decode cX11_image 26 = .ok (.iload_n 1, 1) := by decide +kernel
theorem dX11_image_27 : decode cX11_image 27 = .ok (.aaload, 1) := by decide +kernel
theorem dX11_image_28 : decode cX11_image 28 = .ok (.aload_n 0, 1) := by decide +kernel
theorem dX11_image_29 : decode cX11_image 29 = .ok (.getfield 58, 3) := by decide +kernel
theorem dX11_image_32 : decode cX11_image 32 = .ok (.invokevirtual 286, 3) := by decide +kernel
theorem dX11_image_35 : decode cX11_image 35 = .ok (.aload_n 0, 1) := by decide +kernel
theorem dX11_image_36 : decode cX11_image 36 = .ok (.getfield 28, 3) := by decide +kernel
theorem dX11_image_39 : decode cX11_image 39 = .ok (.iload_n 1, 1) := by decide +kernel
theorem dX11_image_40 : decode cX11_image 40 = .ok (.iconst 1, 1) := by decide +kernel
theorem dX11_image_41 : decode cX11_image 41 = .ok (.bastore, 1) := by decide +kernel
theorem dX11_image_42 : decode cX11_image 42 = .ok (.iconst 1, 1) := by decide +kernel
theorem dX11_image_43 : decode cX11_image 43 = .ok (.ireturn, 1) := by decide +kernel
theorem dX11_restore_0 : decode cX11_restore 0 = .ok (.iload_n 1, 1) := by decide +kernel
theorem dX11_restore_1 : decode cX11_restore 1 = .ok (.iconst 0, 1) := by decide +kernel
theorem dX11_restore_2 : decode cX11_restore 2 = .ok (.iconst 1, 1) := by decide +kernel
theorem dX11_restore_3 : decode cX11_restore 3 = .ok (.invokestatic 70, 3) := by decide +kernel
theorem dX11_restore_6 : decode cX11_restore 6 = .ok (.ifCond .ne 6, 3) := by decide +kernel
theorem dX11_restore_9 : decode cX11_restore 9 = .ok (.ldc 74, 2) := by decide +kernel
theorem dX11_restore_11 : decode cX11_restore 11 = .ok (.ireturn, 1) := by decide +kernel
theorem dX11_restore_12 : decode cX11_restore 12 = .ok (.aload_n 0, 1) := by decide +kernel
theorem dX11_restore_13 : decode cX11_restore 13 = .ok (.getfield 28, 3) := by decide +kernel
theorem dX11_restore_16 : decode cX11_restore 16 = .ok (.iload_n 1, 1) := by decide +kernel
theorem dX11_restore_17 : decode cX11_restore 17 = .ok (.baload, 1) := by decide +kernel
theorem dX11_restore_18 : decode cX11_restore 18 = .ok (.ifCond .ne 6, 3) := by decide +kernel
theorem dX11_restore_21 : decode cX11_restore 21 = .ok (.ldc 153, 2) := by decide +kernel
theorem dX11_restore_23 : decode cX11_restore 23 = .ok (.ireturn, 1) := by decide +kernel
theorem dX11_restore_24 : decode cX11_restore 24 = .ok (.aload_n 0, 1) := by decide +kernel
theorem dX11_restore_25 : decode cX11_restore 25 = .ok (.getfield 58, 3) := by decide +kernel
theorem dX11_restore_28 : decode cX11_restore 28 = .ok (.aload_n 0, 1) := by decide +kernel
theorem dX11_restore_29 : decode cX11_restore 29 = .ok (.getfield 24, 3) := by decide +kernel
theorem dX11_restore_32 : decode cX11_restore 32 = .ok (.iload_n 1, 1) := by decide +kernel
theorem dX11_restore_33 : decode cX11_restore 33 = .ok (.aaload, 1) := by decide +kernel
theorem dX11_restore_34 : decode cX11_restore 34 = .ok (.invokevirtual 286, 3) := by decide +kernel
theorem dX11_restore_37 : decode cX11_restore 37 = .ok (.aload_n 0, 1) := by decide +kernel
theorem dX11_restore_38 : decode cX11_restore 38 = .ok (.invokevirtual 137, 3) := by decide +kernel
theorem dX11_restore_41 : decode cX11_restore 41 = .ok (.iconst 1, 1) := by decide +kernel
theorem dX11_restore_42 : decode cX11_restore 42 = .ok (.ireturn, 1) := by decide +kernel
theorem dX11_kind_0 : decode cX11_kind 0 = .ok (.aload_n 0, 1) := by decide +kernel
theorem dX11_kind_1 : decode cX11_kind 1 = .ok (.iload_n 1, 1) := by decide +kernel
theorem dX11_kind_2 : decode cX11_kind 2 = .ok (.invokevirtual 173, 3) := by decide +kernel
theorem dX11_kind_5 : decode cX11_kind 5 = .ok (.astore_n 2, 1) := by decide +kernel
theorem dX11_kind_6 : decode cX11_kind 6 = .ok (.aload_n 2, 1) := by decide +kernel
theorem dX11_kind_7 : decode cX11_kind 7 = .ok (.ifnonnull 8, 3) := by decide +kernel
theorem dX11_kind_10 : decode cX11_kind 10 = .ok (.ldc 74, 2) := by decide +kernel
theorem dX11_kind_12 : decode cX11_kind 12 = .ok (.goto 7, 3) := by decide +kernel
theorem dX11_kind_15 : decode cX11_kind 15 = .ok (.aload_n 2, 1) := by decide +kernel
theorem dX11_kind_16 : decode cX11_kind 16 = .ok (.invokevirtual 289, 3) := by decide +kernel
theorem dX11_kind_19 : decode cX11_kind 19 = .ok (.ireturn, 1) := by decide +kernel
theorem dX11_as_0 : decode cX11_as 0 = .ok (.aload_n 0, 1) := by decide +kernel
theorem dX11_as_1 : decode cX11_as 1 = .ok (.iload_n 1, 1) := by decide +kernel
theorem dX11_as_2 : decode cX11_as 2 = .ok (.invokevirtual 173, 3) := by decide +kernel
theorem dX11_as_5 : decode cX11_as 5 = .ok (.astore_n 3, 1) := by decide +kernel
theorem dX11_as_6 : decode cX11_as 6 = .ok (.aload_n 3, 1) := by decide +kernel
theorem dX11_as_7 : decode cX11_as 7 = .ok (.ifnull 12, 3) := by decide +kernel
theorem dX11_as_10 : decode cX11_as 10 = .ok (.iload_n 2, 1) := by decide +kernel
theorem dX11_as_11 : decode cX11_as 11 = .ok (.iconst 0, 1) := by decide +kernel
theorem dX11_as_12 : decode cX11_as 12 = .ok (.iconst 5, 1) := by decide +kernel
theorem dX11_as_13 : decode cX11_as 13 = .ok (.invokestatic 70, 3) := by decide +kernel
theorem dX11_as_16 : decode cX11_as 16 = .ok (.ifCond .ne 6, 3) := by decide +kernel
theorem dX11_as_19 : decode cX11_as 19 = .ok (.ldc 74, 2) := by decide +kernel
theorem dX11_as_21 : decode cX11_as 21 = .ok (.ireturn, 1) := by decide +kernel
theorem dX11_as_22 : decode cX11_as 22 = .ok (.aload_n 3, 1) := by decide +kernel
theorem dX11_as_23 : decode cX11_as 23 = .ok (.iload_n 2, 1) := by decide +kernel
theorem dX11_as_24 : decode cX11_as 24 = .ok (.invokestatic 292, 3) := by decide +kernel
theorem dX11_as_27 : decode cX11_as 27 = .ok (.ifCond .eq 11, 3) := by decide +kernel
theorem dX11_as_30 : decode cX11_as 30 = .ok (.aload_n 0, 1) := by decide +kernel
theorem dX11_as_31 : decode cX11_as 31 = .ok (.iload_n 1, 1) := by decide +kernel
theorem dX11_as_32 : decode cX11_as 32 = .ok (.invokevirtual 83, 3) := by decide +kernel
theorem dX11_as_35 : decode cX11_as 35 = .ok (.goto 8, 3) := by decide +kernel
theorem dX11_as_38 : decode cX11_as 38 = .ok (.aload_n 0, 1) := by decide +kernel
theorem dX11_as_39 : decode cX11_as 39 = .ok (.iconst 3, 1) := by decide +kernel
theorem dX11_as_40 : decode cX11_as 40 = .ok (.invokevirtual 75, 3) := by decide +kernel
theorem dX11_as_43 : decode cX11_as 43 = .ok (.ireturn, 1) := by decide +kernel
theorem dX11_ask_0 : decode cX11_ask 0 = .ok (.aload_n 0, 1) := by decide +kernel
theorem dX11_ask_1 : decode cX11_ask 1 = .ok (.iload_n 1, 1) := by decide +kernel
theorem dX11_ask_2 : decode cX11_ask 2 = .ok (.invokevirtual 173, 3) := by decide +kernel
theorem dX11_ask_5 : decode cX11_ask 5 = .ok (.astore_n 3, 1) := by decide +kernel
theorem dX11_ask_6 : decode cX11_ask 6 = .ok (.aload_n 3, 1) := by decide +kernel
theorem dX11_ask_7 : decode cX11_ask 7 = .ok (.ifnull 12, 3) := by decide +kernel
theorem dX11_ask_10 : decode cX11_ask 10 = .ok (.iload_n 2, 1) := by decide +kernel
theorem dX11_ask_11 : decode cX11_ask 11 = .ok (.iconst 0, 1) := by decide +kernel
theorem dX11_ask_12 : decode cX11_ask 12 = .ok (.iconst 1, 1) := by decide +kernel
theorem dX11_ask_13 : decode cX11_ask 13 = .ok (.invokestatic 70, 3) := by decide +kernel
theorem dX11_ask_16 : decode cX11_ask 16 = .ok (.ifCond .ne 6, 3) := by decide +kernel
theorem dX11_ask_19 : decode cX11_ask 19 = .ok (.ldc 74, 2) := by decide +kernel
theorem dX11_ask_21 : decode cX11_ask 21 = .ok (.ireturn, 1) := by decide +kernel
theorem dX11_ask_22 : decode cX11_ask 22 = .ok (.aload_n 0, 1) := by decide +kernel
theorem dX11_ask_23 : decode cX11_ask 23 = .ok (.getfield 46, 3) := by decide +kernel
theorem dX11_ask_26 : decode cX11_ask 26 = .ok (.iconst 0, 1) := by decide +kernel
theorem dX11_ask_27 : decode cX11_ask 27 = .ok (.putfield 295, 3) := by decide +kernel
theorem dX11_ask_30 : decode cX11_ask 30 = .ok (.aload_n 0, 1) := by decide +kernel
theorem dX11_ask_31 : decode cX11_ask 31 = .ok (.getfield 58, 3) := by decide +kernel
theorem dX11_ask_34 : decode cX11_ask 34 = .ok (.getfield 157, 3) := by decide +kernel
theorem dX11_ask_37 : decode cX11_ask 37 = .ok (.getfield 170, 3) := by decide +kernel
theorem dX11_ask_40 : decode cX11_ask 40 = .ok (.istore 4, 2) := by decide +kernel
theorem dX11_ask_42 : decode cX11_ask 42 = .ok (.iload_n 2, 1) := by decide +kernel
theorem dX11_ask_43 : decode cX11_ask 43 = .ok (.ifCond .ne 16, 3) := by decide +kernel
theorem dX11_ask_46 : decode cX11_ask 46 = .ok (.aload_n 3, 1) := by decide +kernel
theorem dX11_ask_47 : decode cX11_ask 47 = .ok (.iload 4, 2) := by decide +kernel
theorem dX11_ask_49 : decode cX11_ask 49 = .ok (.aload_n 0, 1) := by decide +kernel
theorem dX11_ask_50 : decode cX11_ask 50 = .ok (.getfield 46, 3) := by decide +kernel
theorem dX11_ask_53 : decode cX11_ask 53 = .ok (.invokevirtual 296, 3) := by decide +kernel
theorem dX11_ask_56 : decode cX11_ask 56 = .ok (.goto 13, 3) := by decide +kernel
theorem dX11_ask_59 : decode cX11_ask 59 = .ok (.aload_n 3, 1) := by decide +kernel
theorem dX11_ask_60 : decode cX11_ask 60 = .ok (.iload 4, 2) := by decide +kernel
theorem dX11_ask_62 : decode cX11_ask 62 = .ok (.aload_n 0, 1) := by decide +kernel
theorem dX11_ask_63 : decode cX11_ask 63 = .ok (.getfield 46, 3) := by decide +kernel
theorem dX11_ask_66 : decode cX11_ask 66 = .ok (.invokevirtual 299, 3) := by decide +kernel
theorem dX11_ask_69 : decode cX11_ask 69 = .ok (.ireturn, 1) := by decide +kernel
theorem dX11_trace_0 : decode cX11_trace 0 = .ok (.iload_n 1, 1) := by decide +kernel
theorem dX11_trace_1 : decode cX11_trace 1 = .ok (.iconst 0, 1) := by decide +kernel
theorem dX11_trace_2 : decode cX11_trace 2 = .ok (.aload_n 0, 1) := by decide +kernel
theorem dX11_trace_3 : decode cX11_trace 3 = .ok (.getfield 46, 3) := by decide +kernel
theorem dX11_trace_6 : decode cX11_trace 6 = .ok (.getfield 295, 3) := by decide +kernel
theorem dX11_trace_9 : decode cX11_trace 9 = .ok (.iconst 1, 1) := by decide +kernel
theorem dX11_trace_10 : decode cX11_trace 10 = .ok (.isub, 1) := by decide +kernel
theorem dX11_trace_11 : decode cX11_trace 11 = .ok (.invokestatic 70, 3) := by decide +kernel
theorem dX11_trace_14 : decode cX11_trace 14 = .ok (.ifCond .eq 15, 3) := by decide +kernel
theorem dX11_trace_17 : decode cX11_trace 17 = .ok (.aload_n 0, 1) := by decide +kernel
theorem dX11_trace_18 : decode cX11_trace 18 = .ok (.getfield 46, 3) := by decide +kernel
theorem dX11_trace_21 : decode cX11_trace 21 = .ok (.getfield 302, 3) := by decide +kernel
theorem dX11_trace_24 : decode cX11_trace 24 = .ok (.iload_n 1, 1) := by decide +kernel
theorem dX11_trace_25 : decode cX11_trace 25 = .ok (.iaload, 1) := by decide +kernel
theorem dX11_trace_26 : decode cX11_trace 26 = .ok (.goto 5, 3) := by decide +kernel
theorem dX11_trace_29 : decode cX11_trace 29 = .ok (.ldc 213, 2) := by decide +kernel
theorem dX11_trace_31 : decode cX11_trace 31 = .ok (.ireturn, 1) := by decide +kernel
theorem dX11_count_0 : decode cX11_count 0 = .ok (.iload_n 1, 1) := by decide +kernel
theorem dX11_count_1 : decode cX11_count 1 = .ok (.tableswitch 108 0 6 #[43, 48, 59, 67, 81, 95, 100], 43) := by decide +kernel
theorem dX11_count_44 : decode cX11_count 44 = .ok (.aload_n 0, 1) := by decide +kernel
theorem dX11_count_45 : decode cX11_count 45 = .ok (.invokevirtual 305, 3) := by decide +kernel
theorem dX11_count_48 : decode cX11_count 48 = .ok (.ireturn, 1) := by decide +kernel
theorem dX11_count_49 : decode cX11_count 49 = .ok (.aload_n 0, 1) := by decide +kernel
theorem dX11_count_50 : decode cX11_count 50 = .ok (.getfield 58, 3) := by decide +kernel
theorem dX11_count_53 : decode cX11_count 53 = .ok (.getfield 140, 3) := by decide +kernel
theorem dX11_count_56 : decode cX11_count 56 = .ok (.invokevirtual 144, 3) := by decide +kernel
theorem dX11_count_59 : decode cX11_count 59 = .ok (.ireturn, 1) := by decide +kernel
theorem dX11_count_60 : decode cX11_count 60 = .ok (.aload_n 0, 1) := by decide +kernel
theorem dX11_count_61 : decode cX11_count 61 = .ok (.getfield 58, 3) := by decide +kernel
theorem dX11_count_64 : decode cX11_count 64 = .ok (.getfield 192, 3) := by decide +kernel
theorem dX11_count_67 : decode cX11_count 67 = .ok (.ireturn, 1) := by decide +kernel
theorem dX11_count_68 : decode cX11_count 68 = .ok (.aload_n 0, 1) := by decide +kernel
theorem dX11_count_69 : decode cX11_count 69 = .ok (.getfield 58, 3) := by decide +kernel
theorem dX11_count_72 : decode cX11_count 72 = .ok (.getfield 157, 3) := by decide +kernel
theorem dX11_count_75 : decode cX11_count 75 = .ok (.getfield 189, 3) := by decide +kernel
theorem dX11_count_78 : decode cX11_count 78 = .ok (.invokestatic 308, 3) := by decide +kernel
theorem dX11_count_81 : decode cX11_count 81 = .ok (.ireturn, 1) := by decide +kernel
theorem dX11_count_82 : decode cX11_count 82 = .ok (.aload_n 0, 1) := by decide +kernel
theorem dX11_count_83 : decode cX11_count 83 = .ok (.getfield 58, 3) := by decide +kernel
theorem dX11_count_86 : decode cX11_count 86 = .ok (.getfield 157, 3) := by decide +kernel
theorem dX11_count_89 : decode cX11_count 89 = .ok (.getfield 201, 3) := by decide +kernel
theorem dX11_count_92 : decode cX11_count 92 = .ok (.invokestatic 308, 3) := by decide +kernel
theorem dX11_count_95 : decode cX11_count 95 = .ok (.ireturn, 1) := by decide +kernel
theorem dX11_count_96 : decode cX11_count 96 = .ok (.aload_n 0, 1) := by decide +kernel
theorem dX11_count_97 : decode cX11_count 97 = .ok (.getfield 150, 3) := by decide +kernel
theorem dX11_count_100 : decode cX11_count 100 = .ok (.ireturn, 1) := by decide +kernel
theorem dX11_count_101 : decode cX11_count 101 = .ok (.aload_n 0, 1) := by decide +kernel
theorem dX11_count_102 : decode cX11_count 102 = .ok (.getfield 18, 3) := by decide +kernel
theorem dX11_count_105 : decode cX11_count 105 = .ok (.getfield 117, 3) := by decide +kernel
theorem dX11_count_108 : decode cX11_count 108 = .ok (.ireturn, 1) := by decide +kernel
theorem dX11_count_109 : decode cX11_count 109 = .ok (.ldc 74, 2) := by decide +kernel
theorem dX11_count_111 : decode cX11_count 111 = .ok (.ireturn, 1) := by decide +kernel
theorem dX11_status_0 : decode cX11_status 0 = .ok (.aload_n 0, 1) := by decide +kernel
theorem dX11_status_1 : decode cX11_status 1 = .ok (.getfield 312, 3) := by decide +kernel
theorem dX11_status_4 : decode cX11_status 4 = .ok (.ireturn, 1) := by decide +kernel
theorem dX11_isWithin_0 : decode cX11_isWithin 0 = .ok (.iload_n 0, 1) := by decide +kernel
theorem dX11_isWithin_1 : decode cX11_isWithin 1 = .ok (.iload_n 1, 1) := by decide +kernel
theorem dX11_isWithin_2 : decode cX11_isWithin 2 = .ok (.if_icmp .lt 12, 3) := by decide +kernel
theorem dX11_isWithin_5 : decode cX11_isWithin 5 = .ok (.iload_n 0, 1) := by decide +kernel
theorem dX11_isWithin_6 : decode cX11_isWithin 6 = .ok (.iload_n 2, 1) := by decide +kernel
theorem dX11_isWithin_7 : decode cX11_isWithin 7 = .ok (.if_icmp .gt 7, 3) := by decide +kernel
theorem dX11_isWithin_10 : decode cX11_isWithin 10 = .ok (.iconst 1, 1) := by decide +kernel
theorem dX11_isWithin_11 : decode cX11_isWithin 11 = .ok (.goto 4, 3) := by decide +kernel
theorem dX11_isWithin_14 : decode cX11_isWithin 14 = .ok (.iconst 0, 1) := by decide +kernel
theorem dX11_isWithin_15 : decode cX11_isWithin 15 = .ok (.ireturn, 1) := by decide +kernel
theorem dX11_isRow_0 : decode cX11_isRow 0 = .ok (.iload_n 0, 1) := by decide +kernel
theorem dX11_isRow_1 : decode cX11_isRow 1 = .ok (.iconst 0, 1) := by decide +kernel
theorem dX11_isRow_2 : decode cX11_isRow 2 = .ok (.bipush 7, 2) := by decide +kernel
theorem dX11_isRow_4 : decode cX11_isRow 4 = .ok (.invokestatic 70, 3) := by decide +kernel
theorem dX11_isRow_7 : decode cX11_isRow 7 = .ok (.ireturn, 1) := by decide +kernel
theorem dX11_isCell_0 : decode cX11_isCell 0 = .ok (.iload_n 0, 1) := by decide +kernel
theorem dX11_isCell_1 : decode cX11_isCell 1 = .ok (.iconst 0, 1) := by decide +kernel
theorem dX11_isCell_2 : decode cX11_isCell 2 = .ok (.bipush 14, 2) := by decide +kernel
theorem dX11_isCell_4 : decode cX11_isCell 4 = .ok (.invokestatic 70, 3) := by decide +kernel
theorem dX11_isCell_7 : decode cX11_isCell 7 = .ok (.ireturn, 1) := by decide +kernel
theorem dX11_found_0 : decode cX11_found 0 = .ok (.aload_n 0, 1) := by decide +kernel
theorem dX11_found_1 : decode cX11_found 1 = .ok (.iload_n 1, 1) := by decide +kernel
theorem dX11_found_2 : decode cX11_found 2 = .ok (.putfield 312, 3) := by decide +kernel
theorem dX11_found_5 : decode cX11_found 5 = .ok (.ldc_w 315, 3) := by decide +kernel
theorem dX11_found_8 : decode cX11_found 8 = .ok (.iload_n 1, 1) := by decide +kernel
theorem dX11_found_9 : decode cX11_found 9 = .ok (.isub, 1) := by decide +kernel
theorem dX11_found_10 : decode cX11_found 10 = .ok (.ireturn, 1) := by decide +kernel
theorem dX11_unfound_0 : decode cX11_unfound 0 = .ok (.aload_n 0, 1) := by decide +kernel
theorem dX11_unfound_1 : decode cX11_unfound 1 = .ok (.iconst 0, 1) := by decide +kernel
theorem dX11_unfound_2 : decode cX11_unfound 2 = .ok (.putfield 312, 3) := by decide +kernel
theorem dX11_unfound_5 : decode cX11_unfound 5 = .ok (.iload_n 1, 1) := by decide +kernel
theorem dX11_unfound_6 : decode cX11_unfound 6 = .ok (.ireturn, 1) := by decide +kernel
theorem dX11_passOf_0 : decode cX11_passOf 0 = .ok (.iload_n 1, 1) := by decide +kernel
theorem dX11_passOf_1 : decode cX11_passOf 1 = .ok (.iconst 0, 1) := by decide +kernel
theorem dX11_passOf_2 : decode cX11_passOf 2 = .ok (.aload_n 0, 1) := by decide +kernel
theorem dX11_passOf_3 : decode cX11_passOf 3 = .ok (.getfield 58, 3) := by decide +kernel
theorem dX11_passOf_6 : decode cX11_passOf 6 = .ok (.getfield 140, 3) := by decide +kernel
theorem dX11_passOf_9 : decode cX11_passOf 9 = .ok (.invokevirtual 144, 3) := by decide +kernel
theorem dX11_passOf_12 : decode cX11_passOf 12 = .ok (.iconst 1, 1) := by decide +kernel
theorem dX11_passOf_13 : decode cX11_passOf 13 = .ok (.isub, 1) := by decide +kernel
theorem dX11_passOf_14 : decode cX11_passOf 14 = .ok (.invokestatic 70, 3) := by decide +kernel
theorem dX11_passOf_17 : decode cX11_passOf 17 = .ok (.ifCond .eq 20, 3) := by decide +kernel
theorem dX11_passOf_20 : decode cX11_passOf 20 = .ok (.aload_n 0, 1) := by decide +kernel
theorem dX11_passOf_21 : decode cX11_passOf 21 = .ok (.getfield 58, 3) := by decide +kernel
theorem dX11_passOf_24 : decode cX11_passOf 24 = .ok (.getfield 140, 3) := by decide +kernel
theorem dX11_passOf_27 : decode cX11_passOf 27 = .ok (.iload_n 1, 1) := by decide +kernel
theorem dX11_passOf_28 : decode cX11_passOf 28 = .ok (.invokevirtual 278, 3) := by decide +kernel
theorem dX11_passOf_31 : decode cX11_passOf 31 = .ok (.checkcast 178, 3) := by decide +kernel
theorem dX11_passOf_34 : decode cX11_passOf 34 = .ok (.goto 4, 3) := by decide +kernel
theorem dX11_passOf_37 : decode cX11_passOf 37 = .ok (.aconst_null, 1) := by decide +kernel
theorem dX11_passOf_38 : decode cX11_passOf 38 = .ok (.areturn, 1) := by decide +kernel
theorem dX11_allPasses_0 : decode cX11_allPasses 0 = .ok (.iconst 1, 1) := by decide +kernel
theorem dX11_allPasses_1 : decode cX11_allPasses 1 = .ok (.aload_n 0, 1) := by decide +kernel
theorem dX11_allPasses_2 : decode cX11_allPasses 2 = .ok (.getfield 58, 3) := by decide +kernel
theorem dX11_allPasses_5 : decode cX11_allPasses 5 = .ok (.getfield 140, 3) := by decide +kernel
theorem dX11_allPasses_8 : decode cX11_allPasses 8 = .ok (.invokevirtual 144, 3) := by decide +kernel
theorem dX11_allPasses_11 : decode cX11_allPasses 11 = .ok (.ishl, 1) := by decide +kernel
theorem dX11_allPasses_12 : decode cX11_allPasses 12 = .ok (.iconst 1, 1) := by decide +kernel
theorem dX11_allPasses_13 : decode cX11_allPasses 13 = .ok (.isub, 1) := by decide +kernel
theorem dX11_allPasses_14 : decode cX11_allPasses 14 = .ok (.ireturn, 1) := by decide +kernel
theorem dX11_keepAct_0 : decode cX11_keepAct 0 = .ok (.aload_n 0, 1) := by decide +kernel
theorem dX11_keepAct_1 : decode cX11_keepAct 1 = .ok (.getfield 34, 3) := by decide +kernel
theorem dX11_keepAct_4 : decode cX11_keepAct 4 = .ok (.aload_n 0, 1) := by decide +kernel
theorem dX11_keepAct_5 : decode cX11_keepAct 5 = .ok (.getfield 154, 3) := by decide +kernel
theorem dX11_keepAct_8 : decode cX11_keepAct 8 = .ok (.aaload, 1) := by decide +kernel
theorem dX11_keepAct_9 : decode cX11_keepAct 9 = .ok (.aload_n 0, 1) := by decide +kernel
theorem dX11_keepAct_10 : decode cX11_keepAct 10 = .ok (.getfield 58, 3) := by decide +kernel
theorem dX11_keepAct_13 : decode cX11_keepAct 13 = .ok (.getfield 157, 3) := by decide +kernel
theorem dX11_keepAct_16 : decode cX11_keepAct 16 = .ok (.invokevirtual 160, 3) := by decide +kernel
theorem dX11_keepAct_19 : decode cX11_keepAct 19 = .ok (.aload_n 0, 1) := by decide +kernel
theorem dX11_keepAct_20 : decode cX11_keepAct 20 = .ok (.aload_n 0, 1) := by decide +kernel
theorem dX11_keepAct_21 : decode cX11_keepAct 21 = .ok (.getfield 154, 3) := by decide +kernel
theorem dX11_keepAct_24 : decode cX11_keepAct 24 = .ok (.iconst 1, 1) := by decide +kernel
theorem dX11_keepAct_25 : decode cX11_keepAct 25 = .ok (.iadd, 1) := by decide +kernel
theorem dX11_keepAct_26 : decode cX11_keepAct 26 = .ok (.bipush 24, 2) := by decide +kernel
theorem dX11_keepAct_28 : decode cX11_keepAct 28 = .ok (.irem, 1) := by decide +kernel
theorem dX11_keepAct_29 : decode cX11_keepAct 29 = .ok (.putfield 154, 3) := by decide +kernel
theorem dX11_keepAct_32 : decode cX11_keepAct 32 = .ok (.aload_n 0, 1) := by decide +kernel
theorem dX11_keepAct_33 : decode cX11_keepAct 33 = .ok (.aload_n 0, 1) := by decide +kernel
theorem dX11_keepAct_34 : decode cX11_keepAct 34 = .ok (.getfield 150, 3) := by decide +kernel
theorem dX11_keepAct_37 : decode cX11_keepAct 37 = .ok (.iconst 1, 1) := by decide +kernel
theorem dX11_keepAct_38 : decode cX11_keepAct 38 = .ok (.iadd, 1) := by decide +kernel
theorem dX11_keepAct_39 : decode cX11_keepAct 39 = .ok (.bipush 24, 2) := by decide +kernel
theorem dX11_keepAct_41 : decode cX11_keepAct 41 = .ok (.invokestatic 316, 3) := by decide +kernel
theorem dX11_keepAct_44 : decode cX11_keepAct 44 = .ok (.putfield 150, 3) := by decide +kernel
theorem dX11_keepAct_47 : decode cX11_keepAct 47 = .ok (.return_, 1) := by decide +kernel
theorem dX11_forgetActs_0 : decode cX11_forgetActs 0 = .ok (.aload_n 0, 1) := by decide +kernel
theorem dX11_forgetActs_1 : decode cX11_forgetActs 1 = .ok (.iconst 0, 1) := by decide +kernel
theorem dX11_forgetActs_2 : decode cX11_forgetActs 2 = .ok (.putfield 150, 3) := by decide +kernel
theorem dX11_forgetActs_5 : decode cX11_forgetActs 5 = .ok (.return_, 1) := by decide +kernel
theorem dX11_guessRounds_0 : decode cX11_guessRounds 0 = .ok (.aload_n 0, 1) := by decide +kernel
theorem dX11_guessRounds_1 : decode cX11_guessRounds 1 = .ok (.getfield 39, 3) := by decide +kernel
theorem dX11_guessRounds_4 : decode cX11_guessRounds 4 = .ok (.aload_n 0, 1) := by decide +kernel
theorem dX11_guessRounds_5 : decode cX11_guessRounds 5 = .ok (.getfield 58, 3) := by decide +kernel
theorem dX11_guessRounds_8 : decode cX11_guessRounds 8 = .ok (.getfield 157, 3) := by decide +kernel
theorem dX11_guessRounds_11 : decode cX11_guessRounds 11 = .ok (.invokevirtual 160, 3) := by decide +kernel
theorem dX11_guessRounds_14 : decode cX11_guessRounds 14 = .ok (.iconst 0, 1) := by decide +kernel
theorem dX11_guessRounds_15 : decode cX11_guessRounds 15 = .ok (.istore_n 2, 1) := by decide +kernel
theorem dX11_guessRounds_16 : decode cX11_guessRounds 16 = .ok (.iload_n 2, 1) := by decide +kernel
theorem dX11_guessRounds_17 : decode cX11_guessRounds 17 = .ok (.iload_n 1, 1) := by decide +kernel
theorem dX11_guessRounds_18 : decode cX11_guessRounds 18 = .ok (.if_icmp .ge 20, 3) := by decide +kernel
theorem dX11_guessRounds_21 : decode cX11_guessRounds 21 = .ok (.aload_n 0, 1) := by decide +kernel
theorem dX11_guessRounds_22 : decode cX11_guessRounds 22 = .ok (.getfield 58, 3) := by decide +kernel
theorem dX11_guessRounds_25 : decode cX11_guessRounds 25 = .ok (.aload_n 0, 1) := by decide +kernel
theorem dX11_guessRounds_26 : decode cX11_guessRounds 26 = .ok (.getfield 39, 3) := by decide +kernel
theorem dX11_guessRounds_29 : decode cX11_guessRounds 29 = .ok (.invokevirtual 238, 3) := by decide +kernel
theorem dX11_guessRounds_32 : decode cX11_guessRounds 32 = .ok (.iinc 2 1, 3) := by decide +kernel
theorem dX11_guessRounds_35 : decode cX11_guessRounds 35 = .ok (.goto (-19), 3) := by decide +kernel
theorem dX11_guessRounds_38 : decode cX11_guessRounds 38 = .ok (.return_, 1) := by decide +kernel
theorem dX11_gainsAlong_0 : decode cX11_gainsAlong 0 = .ok (.aload_n 1, 1) := by decide +kernel
theorem dX11_gainsAlong_1 : decode cX11_gainsAlong 1 = .ok (.getfield 210, 3) := by decide +kernel
theorem dX11_gainsAlong_4 : decode cX11_gainsAlong 4 = .ok (.astore_n 3, 1) := by decide +kernel
theorem dX11_gainsAlong_5 : decode cX11_gainsAlong 5 = .ok (.aload_n 3, 1) := by decide +kernel
theorem dX11_gainsAlong_6 : decode cX11_gainsAlong 6 = .ok (.arraylength, 1) := by decide +kernel
theorem dX11_gainsAlong_7 : decode cX11_gainsAlong 7 = .ok (.istore 4, 2) := by decide +kernel
theorem dX11_gainsAlong_9 : decode cX11_gainsAlong 9 = .ok (.iconst 0, 1) := by decide +kernel
theorem dX11_gainsAlong_10 : decode cX11_gainsAlong 10 = .ok (.istore 5, 2) := by decide +kernel
theorem dX11_gainsAlong_12 : decode cX11_gainsAlong 12 = .ok (.iload 5, 2) := by decide +kernel
theorem dX11_gainsAlong_14 : decode cX11_gainsAlong 14 = .ok (.iload 4, 2) := by decide +kernel
theorem dX11_gainsAlong_16 : decode cX11_gainsAlong 16 = .ok (.if_icmp .ge 45, 3) := by decide +kernel
theorem dX11_gainsAlong_19 : decode cX11_gainsAlong 19 = .ok (.aload_n 3, 1) := by decide +kernel
theorem dX11_gainsAlong_20 : decode cX11_gainsAlong 20 = .ok (.iload 5, 2) := by decide +kernel
theorem dX11_gainsAlong_22 : decode cX11_gainsAlong 22 = .ok (.iaload, 1) := by decide +kernel
theorem dX11_gainsAlong_23 : decode cX11_gainsAlong 23 = .ok (.istore 6, 2) := by decide +kernel
theorem dX11_gainsAlong_25 : decode cX11_gainsAlong 25 = .ok (.aload_n 0, 1) := by decide +kernel
theorem dX11_gainsAlong_26 : decode cX11_gainsAlong 26 = .ok (.getfield 39, 3) := by decide +kernel
theorem dX11_gainsAlong_29 : decode cX11_gainsAlong 29 = .ok (.getfield 189, 3) := by decide +kernel
theorem dX11_gainsAlong_32 : decode cX11_gainsAlong 32 = .ok (.iload 6, 2) := by decide +kernel
theorem dX11_gainsAlong_34 : decode cX11_gainsAlong 34 = .ok (.iaload, 1) := by decide +kernel
theorem dX11_gainsAlong_35 : decode cX11_gainsAlong 35 = .ok (.aload_n 0, 1) := by decide +kernel
theorem dX11_gainsAlong_36 : decode cX11_gainsAlong 36 = .ok (.getfield 58, 3) := by decide +kernel
theorem dX11_gainsAlong_39 : decode cX11_gainsAlong 39 = .ok (.getfield 157, 3) := by decide +kernel
theorem dX11_gainsAlong_42 : decode cX11_gainsAlong 42 = .ok (.getfield 189, 3) := by decide +kernel
theorem dX11_gainsAlong_45 : decode cX11_gainsAlong 45 = .ok (.iload 6, 2) := by decide +kernel
theorem dX11_gainsAlong_47 : decode cX11_gainsAlong 47 = .ok (.iaload, 1) := by decide +kernel
theorem dX11_gainsAlong_48 : decode cX11_gainsAlong 48 = .ok (.iload_n 2, 1) := by decide +kernel
theorem dX11_gainsAlong_49 : decode cX11_gainsAlong 49 = .ok (.iadd, 1) := by decide +kernel
theorem dX11_gainsAlong_50 : decode cX11_gainsAlong 50 = .ok (.if_icmp .ge 5, 3) := by decide +kernel
theorem dX11_gainsAlong_53 : decode cX11_gainsAlong 53 = .ok (.iconst 0, 1) := by decide +kernel
theorem dX11_gainsAlong_54 : decode cX11_gainsAlong 54 = .ok (.ireturn, 1) := by decide +kernel
theorem dX11_gainsAlong_55 : decode cX11_gainsAlong 55 = .ok (.iinc 5 1, 3) := by decide +kernel
theorem dX11_gainsAlong_58 : decode cX11_gainsAlong 58 = .ok (.goto (-46), 3) := by decide +kernel
theorem dX11_gainsAlong_61 : decode cX11_gainsAlong 61 = .ok (.iconst 1, 1) := by decide +kernel
theorem dX11_gainsAlong_62 : decode cX11_gainsAlong 62 = .ok (.ireturn, 1) := by decide +kernel
theorem dX11_findBestOrder_0 : decode cX11_findBestOrder 0 = .ok (.aload_n 0, 1) := by decide +kernel
theorem dX11_findBestOrder_1 : decode cX11_findBestOrder 1 = .ok (.getfield 58, 3) := by decide +kernel
theorem dX11_findBestOrder_4 : decode cX11_findBestOrder 4 = .ok (.getfield 140, 3) := by decide +kernel
theorem dX11_findBestOrder_7 : decode cX11_findBestOrder 7 = .ok (.invokevirtual 144, 3) := by decide +kernel
theorem dX11_findBestOrder_10 : decode cX11_findBestOrder 10 = .ok (.istore_n 1, 1) := by decide +kernel
theorem dX11_findBestOrder_11 : decode cX11_findBestOrder 11 = .ok (.sipush 1000, 3) := by decide +kernel
theorem dX11_findBestOrder_14 : decode cX11_findBestOrder 14 = .ok (.istore_n 2, 1) := by decide +kernel
theorem dX11_findBestOrder_15 : decode cX11_findBestOrder 15 = .ok (.iconst 0, 1) := by decide +kernel
theorem dX11_findBestOrder_16 : decode cX11_findBestOrder 16 = .ok (.istore_n 3, 1) := by decide +kernel
theorem dX11_findBestOrder_17 : decode cX11_findBestOrder 17 = .ok (.iload_n 3, 1) := by decide +kernel
theorem dX11_findBestOrder_18 : decode cX11_findBestOrder 18 = .ok (.getstatic 321, 3) := by decide +kernel
theorem dX11_findBestOrder_21 : decode cX11_findBestOrder 21 = .ok (.iload_n 1, 1) := by decide +kernel
theorem dX11_findBestOrder_22 : decode cX11_findBestOrder 22 = .ok (.iaload, 1) := by decide +kernel
theorem dX11_findBestOrder_23 : decode cX11_findBestOrder 23 = .ok (.if_icmp .ge 109, 3) := by decide +kernel
theorem dX11_findBestOrder_26 : decode cX11_findBestOrder 26 = .ok (.aload_n 0, 1) := by decide +kernel
theorem dX11_findBestOrder_27 : decode cX11_findBestOrder 27 = .ok (.iload_n 3, 1) := by decide +kernel
theorem dX11_findBestOrder_28 : decode cX11_findBestOrder 28 = .ok (.iload_n 1, 1) := by decide +kernel
theorem dX11_findBestOrder_29 : decode cX11_findBestOrder 29 = .ok (.invokevirtual 324, 3) := by decide +kernel
theorem dX11_findBestOrder_32 : decode cX11_findBestOrder 32 = .ok (.ifCond .ne 6, 3) := by decide +kernel
theorem dX11_findBestOrder_35 : decode cX11_findBestOrder 35 = .ok (.goto 91, 3) := by decide +kernel
theorem dX11_findBestOrder_38 : decode cX11_findBestOrder 38 = .ok (.aload_n 0, 1) := by decide +kernel
theorem dX11_findBestOrder_39 : decode cX11_findBestOrder 39 = .ok (.getfield 39, 3) := by decide +kernel
theorem dX11_findBestOrder_42 : decode cX11_findBestOrder 42 = .ok (.aload_n 0, 1) := by decide +kernel
theorem dX11_findBestOrder_43 : decode cX11_findBestOrder 43 = .ok (.getfield 58, 3) := by decide +kernel
theorem dX11_findBestOrder_46 : decode cX11_findBestOrder 46 = .ok (.getfield 157, 3) := by decide +kernel
theorem dX11_findBestOrder_49 : decode cX11_findBestOrder 49 = .ok (.invokevirtual 160, 3) := by decide +kernel
theorem dX11_findBestOrder_52 : decode cX11_findBestOrder 52 = .ok (.iconst 0, 1) := by decide +kernel
theorem dX11_findBestOrder_53 : decode cX11_findBestOrder 53 = .ok (.istore 4, 2) := by decide +kernel
theorem dX11_findBestOrder_55 : decode cX11_findBestOrder 55 = .ok (.iload 4, 2) := by decide +kernel
theorem dX11_findBestOrder_57 : decode cX11_findBestOrder 57 = .ok (.iload_n 1, 1) := by decide +kernel
theorem dX11_findBestOrder_58 : decode cX11_findBestOrder 58 = .ok (.if_icmp .ge 36, 3) := by decide +kernel
theorem dX11_findBestOrder_61 : decode cX11_findBestOrder 61 = .ok (.aload_n 0, 1) := by decide +kernel
theorem dX11_findBestOrder_62 : decode cX11_findBestOrder 62 = .ok (.getfield 58, 3) := by decide +kernel
theorem dX11_findBestOrder_65 : decode cX11_findBestOrder 65 = .ok (.getfield 140, 3) := by decide +kernel
theorem dX11_findBestOrder_68 : decode cX11_findBestOrder 68 = .ok (.aload_n 0, 1) := by decide +kernel
theorem dX11_findBestOrder_69 : decode cX11_findBestOrder 69 = .ok (.getfield 50, 3) := by decide +kernel
theorem dX11_findBestOrder_72 : decode cX11_findBestOrder 72 = .ok (.iload 4, 2) := by decide +kernel
theorem dX11_findBestOrder_74 : decode cX11_findBestOrder 74 = .ok (.iaload, 1) := by decide +kernel
theorem dX11_findBestOrder_75 : decode cX11_findBestOrder 75 = .ok (.invokevirtual 278, 3) := by decide +kernel
theorem dX11_findBestOrder_78 : decode cX11_findBestOrder 78 = .ok (.checkcast 178, 3) := by decide +kernel
theorem dX11_findBestOrder_81 : decode cX11_findBestOrder 81 = .ok (.aload_n 0, 1) := by decide +kernel
theorem dX11_findBestOrder_82 : decode cX11_findBestOrder 82 = .ok (.getfield 39, 3) := by decide +kernel
theorem dX11_findBestOrder_85 : decode cX11_findBestOrder 85 = .ok (.invokevirtual 177, 3) := by decide +kernel
theorem dX11_findBestOrder_88 : decode cX11_findBestOrder 88 = .ok (.iinc 4 1, 3) := by decide +kernel
theorem dX11_findBestOrder_91 : decode cX11_findBestOrder 91 = .ok (.goto (-36), 3) := by decide +kernel
theorem dX11_findBestOrder_94 : decode cX11_findBestOrder 94 = .ok (.aload_n 0, 1) := by decide +kernel
theorem dX11_findBestOrder_95 : decode cX11_findBestOrder 95 = .ok (.getfield 39, 3) := by decide +kernel
theorem dX11_findBestOrder_98 : decode cX11_findBestOrder 98 = .ok (.invokevirtual 223, 3) := by decide +kernel
theorem dX11_findBestOrder_101 : decode cX11_findBestOrder 101 = .ok (.istore 4, 2) := by decide +kernel
theorem dX11_findBestOrder_103 : decode cX11_findBestOrder 103 = .ok (.iload 4, 2) := by decide +kernel
theorem dX11_findBestOrder_105 : decode cX11_findBestOrder 105 = .ok (.iload_n 2, 1) := by decide +kernel
theorem dX11_findBestOrder_106 : decode cX11_findBestOrder 106 = .ok (.if_icmp .ge 20, 3) := by decide +kernel
theorem dX11_findBestOrder_109 : decode cX11_findBestOrder 109 = .ok (.iload 4, 2) := by decide +kernel
theorem dX11_findBestOrder_111 : decode cX11_findBestOrder 111 = .ok (.istore_n 2, 1) := by decide +kernel
theorem dX11_findBestOrder_112 : decode cX11_findBestOrder 112 = .ok (.aload_n 0, 1) := by decide +kernel
theorem dX11_findBestOrder_113 : decode cX11_findBestOrder 113 = .ok (.getfield 50, 3) := by decide +kernel
theorem dX11_findBestOrder_116 : decode cX11_findBestOrder 116 = .ok (.iconst 0, 1) := by decide +kernel
theorem dX11_findBestOrder_117 : decode cX11_findBestOrder 117 = .ok (.aload_n 0, 1) := by decide +kernel
theorem dX11_findBestOrder_118 : decode cX11_findBestOrder 118 = .ok (.getfield 54, 3) := by decide +kernel
theorem dX11_findBestOrder_121 : decode cX11_findBestOrder 121 = .ok (.iconst 0, 1) := by decide +kernel
theorem dX11_findBestOrder_122 : decode cX11_findBestOrder 122 = .ok (.iload_n 1, 1) := by decide +kernel
theorem dX11_findBestOrder_123 : decode cX11_findBestOrder 123 = .ok (.invokestatic 105, 3) := by decide +kernel
theorem dX11_findBestOrder_126 : decode cX11_findBestOrder 126 = .ok (.iinc 3 1, 3) := by decide +kernel
theorem dX11_findBestOrder_129 : decode cX11_findBestOrder 129 = .ok (.goto (-112), 3) := by decide +kernel
theorem dX11_findBestOrder_132 : decode cX11_findBestOrder 132 = .ok (.iload_n 2, 1) := by decide +kernel
theorem dX11_findBestOrder_133 : decode cX11_findBestOrder 133 = .ok (.ireturn, 1) := by decide +kernel
theorem dX11_spellOrder_0 : decode cX11_spellOrder 0 = .ok (.iload_n 1, 1) := by decide +kernel
theorem dX11_spellOrder_1 : decode cX11_spellOrder 1 = .ok (.istore_n 3, 1) := by decide +kernel
theorem dX11_spellOrder_2 : decode cX11_spellOrder 2 = .ok (.iconst 0, 1) := by decide +kernel
theorem dX11_spellOrder_3 : decode cX11_spellOrder 3 = .ok (.istore 4, 2) := by decide +kernel
theorem dX11_spellOrder_5 : decode cX11_spellOrder 5 = .ok (.iload_n 2, 1) := by decide +kernel
theorem dX11_spellOrder_6 : decode cX11_spellOrder 6 = .ok (.iconst 1, 1) := by decide +kernel
theorem dX11_spellOrder_7 : decode cX11_spellOrder 7 = .ok (.isub, 1) := by decide +kernel
theorem dX11_spellOrder_8 : decode cX11_spellOrder 8 = .ok (.istore 5, 2) := by decide +kernel
theorem dX11_spellOrder_10 : decode cX11_spellOrder 10 = .ok (.iload 5, 2) := by decide +kernel
theorem dX11_spellOrder_12 : decode cX11_spellOrder 12 = .ok (.ifCond .lt 37, 3) := by decide +kernel
theorem dX11_spellOrder_15 : decode cX11_spellOrder 15 = .ok (.aload_n 0, 1) := by decide +kernel
theorem dX11_spellOrder_16 : decode cX11_spellOrder 16 = .ok (.getfield 50, 3) := by decide +kernel
theorem dX11_spellOrder_19 : decode cX11_spellOrder 19 = .ok (.iload 5, 2) := by decide +kernel
theorem dX11_spellOrder_21 : decode cX11_spellOrder 21 = .ok (.iload_n 3, 1) := by decide +kernel
theorem dX11_spellOrder_22 : decode cX11_spellOrder 22 = .ok (.iload_n 2, 1) := by decide +kernel
theorem dX11_spellOrder_23 : decode cX11_spellOrder 23 = .ok (.irem, 1) := by decide +kernel
theorem dX11_spellOrder_24 : decode cX11_spellOrder 24 = .ok (.iastore, 1) := by decide +kernel
theorem dX11_spellOrder_25 : decode cX11_spellOrder 25 = .ok (.iload_n 3, 1) := by decide +kernel
theorem dX11_spellOrder_26 : decode cX11_spellOrder 26 = .ok (.iload_n 2, 1) := by decide +kernel
theorem dX11_spellOrder_27 : decode cX11_spellOrder 27 = .ok (.idiv, 1) := by decide +kernel
theorem dX11_spellOrder_28 : decode cX11_spellOrder 28 = .ok (.istore_n 3, 1) := by decide +kernel
theorem dX11_spellOrder_29 : decode cX11_spellOrder 29 = .ok (.iload 4, 2) := by decide +kernel
theorem dX11_spellOrder_31 : decode cX11_spellOrder 31 = .ok (.iconst 1, 1) := by decide +kernel
theorem dX11_spellOrder_32 : decode cX11_spellOrder 32 = .ok (.aload_n 0, 1) := by decide +kernel
theorem dX11_spellOrder_33 : decode cX11_spellOrder 33 = .ok (.getfield 50, 3) := by decide +kernel
theorem dX11_spellOrder_36 : decode cX11_spellOrder 36 = .ok (.iload 5, 2) := by decide +kernel
theorem dX11_spellOrder_38 : decode cX11_spellOrder 38 = .ok (.iaload, 1) := by decide +kernel
theorem dX11_spellOrder_39 : decode cX11_spellOrder 39 = .ok (.ishl, 1) := by decide +kernel
theorem dX11_spellOrder_40 : decode cX11_spellOrder 40 = .ok (.ior, 1) := by decide +kernel
theorem dX11_spellOrder_41 : decode cX11_spellOrder 41 = .ok (.istore 4, 2) := by decide +kernel
theorem dX11_spellOrder_43 : decode cX11_spellOrder 43 = .ok (.iinc 5 (-1), 3) := by decide +kernel
theorem dX11_spellOrder_46 : decode cX11_spellOrder 46 = .ok (.goto (-36), 3) := by decide +kernel
theorem dX11_spellOrder_49 : decode cX11_spellOrder 49 = .ok (.iload 4, 2) := by decide +kernel
theorem dX11_spellOrder_51 : decode cX11_spellOrder 51 = .ok (.aload_n 0, 1) := by decide +kernel
theorem dX11_spellOrder_52 : decode cX11_spellOrder 52 = .ok (.invokevirtual 229, 3) := by decide +kernel
theorem dX11_spellOrder_55 : decode cX11_spellOrder 55 = .ok (.if_icmp .ne 7, 3) := by decide +kernel
theorem dX11_spellOrder_58 : decode cX11_spellOrder 58 = .ok (.iconst 1, 1) := by decide +kernel
theorem dX11_spellOrder_59 : decode cX11_spellOrder 59 = .ok (.goto 4, 3) := by decide +kernel
theorem dX11_spellOrder_62 : decode cX11_spellOrder 62 = .ok (.iconst 0, 1) := by decide +kernel
theorem dX11_spellOrder_63 : decode cX11_spellOrder 63 = .ok (.ireturn, 1) := by decide +kernel
theorem dX11_power_0 : decode cX11_power 0 = .ok (.lconst 1, 1) := by decide +kernel
theorem dX11_power_1 : decode cX11_power 1 = .ok (.lstore_n 3, 1) := by decide +kernel
theorem dX11_power_2 : decode cX11_power 2 = .ok (.iconst 0, 1) := by decide +kernel
theorem dX11_power_3 : decode cX11_power 3 = .ok (.istore 5, 2) := by decide +kernel
theorem dX11_power_5 : decode cX11_power 5 = .ok (.iload 5, 2) := by decide +kernel
theorem dX11_power_7 : decode cX11_power 7 = .ok (.iload_n 2, 1) := by decide +kernel
theorem dX11_power_8 : decode cX11_power 8 = .ok (.if_icmp .ge 13, 3) := by decide +kernel
theorem dX11_power_11 : decode cX11_power 11 = .ok (.lload_n 3, 1) := by decide +kernel
theorem dX11_power_12 : decode cX11_power 12 = .ok (.lload_n 0, 1) := by decide +kernel
theorem dX11_power_13 : decode cX11_power 13 = .ok (.lmul, 1) := by decide +kernel
theorem dX11_power_14 : decode cX11_power 14 = .ok (.lstore_n 3, 1) := by decide +kernel
theorem dX11_power_15 : decode cX11_power 15 = .ok (.iinc 5 1, 3) := by decide +kernel
theorem dX11_power_18 : decode cX11_power 18 = .ok (.goto (-13), 3) := by decide +kernel
theorem dX11_power_21 : decode cX11_power 21 = .ok (.lload_n 3, 1) := by decide +kernel
theorem dX11_power_22 : decode cX11_power 22 = .ok (.lreturn, 1) := by decide +kernel
theorem dX11_commonDivisor_0 : decode cX11_commonDivisor 0 = .ok (.lload_n 0, 1) := by decide +kernel
theorem dX11_commonDivisor_1 : decode cX11_commonDivisor 1 = .ok (.lstore 4, 2) := by decide +kernel
theorem dX11_commonDivisor_3 : decode cX11_commonDivisor 3 = .ok (.lload_n 2, 1) := by decide +kernel
theorem dX11_commonDivisor_4 : decode cX11_commonDivisor 4 = .ok (.lstore 6, 2) := by decide +kernel
theorem dX11_commonDivisor_6 : decode cX11_commonDivisor 6 = .ok (.iconst 0, 1) := by decide +kernel
theorem dX11_commonDivisor_7 : decode cX11_commonDivisor 7 = .ok (.istore 8, 2) := by decide +kernel
theorem dX11_commonDivisor_9 : decode cX11_commonDivisor 9 = .ok (.iload 8, 2) := by decide +kernel
theorem dX11_commonDivisor_11 : decode cX11_commonDivisor 11 = .ok (.bipush 100, 2) := by decide +kernel
theorem dX11_commonDivisor_13 : decode cX11_commonDivisor 13 = .ok (.if_icmp .ge 31, 3) := by decide +kernel
theorem dX11_commonDivisor_16 : decode cX11_commonDivisor 16 = .ok (.lload 4, 2) := by decide +kernel
theorem dX11_commonDivisor_18 : decode cX11_commonDivisor 18 = .ok (.lconst 0, 1) := by decide +kernel
theorem dX11_commonDivisor_19 : decode cX11_commonDivisor 19 = .ok (.lcmp, 1) := by decide +kernel
theorem dX11_commonDivisor_20 : decode cX11_commonDivisor 20 = .ok (.ifCond .eq 24, 3) := by decide +kernel
theorem dX11_commonDivisor_23 : decode cX11_commonDivisor 23 = .ok (.lload 6, 2) := by decide +kernel
theorem dX11_commonDivisor_25 : decode cX11_commonDivisor 25 = .ok (.lload 4, 2) := by decide +kernel
theorem dX11_commonDivisor_27 : decode cX11_commonDivisor 27 = .ok (.lrem, 1) := by decide +kernel
theorem dX11_commonDivisor_28 : decode cX11_commonDivisor 28 = .ok (.lstore 9, 2) := by decide +kernel
theorem dX11_commonDivisor_30 : decode cX11_commonDivisor 30 = .ok (.lload 4, 2) := by decide +kernel
theorem dX11_commonDivisor_32 : decode cX11_commonDivisor 32 = .ok (.lstore 6, 2) := by decide +kernel
theorem dX11_commonDivisor_34 : decode cX11_commonDivisor 34 = .ok (.lload 9, 2) := by decide +kernel
theorem dX11_commonDivisor_36 : decode cX11_commonDivisor 36 = .ok (.lstore 4, 2) := by decide +kernel
theorem dX11_commonDivisor_38 : decode cX11_commonDivisor 38 = .ok (.iinc 8 1, 3) := by decide +kernel
theorem dX11_commonDivisor_41 : decode cX11_commonDivisor 41 = .ok (.goto (-32), 3) := by decide +kernel
theorem dX11_commonDivisor_44 : decode cX11_commonDivisor 44 = .ok (.lload 6, 2) := by decide +kernel
theorem dX11_commonDivisor_46 : decode cX11_commonDivisor 46 = .ok (.lreturn, 1) := by decide +kernel
theorem dX11_isOfKind_0 : decode cX11_isOfKind 0 = .ok (.iload_n 1, 1) := by decide +kernel
theorem dX11_isOfKind_1 : decode cX11_isOfKind 1 = .ok (.tableswitch 66 0 5 #[39, 41, 46, 51, 56, 61], 39) := by decide +kernel
theorem dX11_isOfKind_40 : decode cX11_isOfKind 40 = .ok (.iconst 1, 1) := by decide +kernel
theorem dX11_isOfKind_41 : decode cX11_isOfKind 41 = .ok (.ireturn, 1) := by decide +kernel
theorem dX11_isOfKind_42 : decode cX11_isOfKind 42 = .ok (.aload_n 0, 1) := by decide +kernel
theorem dX11_isOfKind_43 : decode cX11_isOfKind 43 = .ok (.instanceof 327, 3) := by decide +kernel
theorem dX11_isOfKind_46 : decode cX11_isOfKind 46 = .ok (.ireturn, 1) := by decide +kernel
theorem dX11_isOfKind_47 : decode cX11_isOfKind 47 = .ok (.aload_n 0, 1) := by decide +kernel
theorem dX11_isOfKind_48 : decode cX11_isOfKind 48 = .ok (.instanceof 329, 3) := by decide +kernel
theorem dX11_isOfKind_51 : decode cX11_isOfKind 51 = .ok (.ireturn, 1) := by decide +kernel
theorem dX11_isOfKind_52 : decode cX11_isOfKind 52 = .ok (.aload_n 0, 1) := by decide +kernel
theorem dX11_isOfKind_53 : decode cX11_isOfKind 53 = .ok (.instanceof 331, 3) := by decide +kernel
theorem dX11_isOfKind_56 : decode cX11_isOfKind 56 = .ok (.ireturn, 1) := by decide +kernel
theorem dX11_isOfKind_57 : decode cX11_isOfKind 57 = .ok (.aload_n 0, 1) := by decide +kernel
theorem dX11_isOfKind_58 : decode cX11_isOfKind 58 = .ok (.instanceof 333, 3) := by decide +kernel
theorem dX11_isOfKind_61 : decode cX11_isOfKind 61 = .ok (.ireturn, 1) := by decide +kernel
theorem dX11_isOfKind_62 : decode cX11_isOfKind 62 = .ok (.aload_n 0, 1) := by decide +kernel
theorem dX11_isOfKind_63 : decode cX11_isOfKind 63 = .ok (.instanceof 335, 3) := by decide +kernel
theorem dX11_isOfKind_66 : decode cX11_isOfKind 66 = .ok (.ireturn, 1) := by decide +kernel
theorem dX11_isOfKind_67 : decode cX11_isOfKind 67 = .ok (.iconst 0, 1) := by decide +kernel
theorem dX11_isOfKind_68 : decode cX11_isOfKind 68 = .ok (.ireturn, 1) := by decide +kernel
theorem dX11_rowsThere_0 : decode cX11_rowsThere 0 = .ok (.iconst 0, 1) := by decide +kernel
theorem dX11_rowsThere_1 : decode cX11_rowsThere 1 = .ok (.istore_n 1, 1) := by decide +kernel
theorem dX11_rowsThere_2 : decode cX11_rowsThere 2 = .ok (.aload_n 0, 1) := by decide +kernel
theorem dX11_rowsThere_3 : decode cX11_rowsThere 3 = .ok (.getfield 11, 3) := by decide +kernel
theorem dX11_rowsThere_6 : decode cX11_rowsThere 6 = .ok (.astore_n 2, 1) := by decide +kernel
theorem dX11_rowsThere_7 : decode cX11_rowsThere 7 = .ok (.aload_n 2, 1) := by decide +kernel
theorem dX11_rowsThere_8 : decode cX11_rowsThere 8 = .ok (.arraylength, 1) := by decide +kernel
theorem dX11_rowsThere_9 : decode cX11_rowsThere 9 = .ok (.istore_n 3, 1) := by decide +kernel
theorem dX11_rowsThere_10 : decode cX11_rowsThere 10 = .ok (.iconst 0, 1) := by decide +kernel
theorem dX11_rowsThere_11 : decode cX11_rowsThere 11 = .ok (.istore 4, 2) := by decide +kernel
theorem dX11_rowsThere_13 : decode cX11_rowsThere 13 = .ok (.iload 4, 2) := by decide +kernel
theorem dX11_rowsThere_15 : decode cX11_rowsThere 15 = .ok (.iload_n 3, 1) := by decide +kernel
theorem dX11_rowsThere_16 : decode cX11_rowsThere 16 = .ok (.if_icmp .ge 26, 3) := by decide +kernel
theorem dX11_rowsThere_19 : decode cX11_rowsThere 19 = .ok (.aload_n 2, 1) := by decide +kernel
theorem dX11_rowsThere_20 : decode cX11_rowsThere 20 = .ok (.iload 4, 2) := by decide +kernel
theorem dX11_rowsThere_22 : decode cX11_rowsThere 22 = .ok (.aaload, 1) := by decide +kernel
theorem dX11_rowsThere_23 : decode cX11_rowsThere 23 = .ok (.astore 5, 2) := by decide +kernel
theorem dX11_rowsThere_25 : decode cX11_rowsThere 25 = .ok (.aload 5, 2) := by decide +kernel
theorem dX11_rowsThere_27 : decode cX11_rowsThere 27 = .ok (.invokevirtual 86, 3) := by decide +kernel
theorem dX11_rowsThere_30 : decode cX11_rowsThere 30 = .ok (.ifCond .ne 6, 3) := by decide +kernel
theorem dX11_rowsThere_33 : decode cX11_rowsThere 33 = .ok (.iinc 1 1, 3) := by decide +kernel
theorem dX11_rowsThere_36 : decode cX11_rowsThere 36 = .ok (.iinc 4 1, 3) := by decide +kernel
theorem dX11_rowsThere_39 : decode cX11_rowsThere 39 = .ok (.goto (-26), 3) := by decide +kernel
theorem dX11_rowsThere_42 : decode cX11_rowsThere 42 = .ok (.iload_n 1, 1) := by decide +kernel
theorem dX11_rowsThere_43 : decode cX11_rowsThere 43 = .ok (.ireturn, 1) := by decide +kernel
theorem dX11_cellsAboveNone_0 : decode cX11_cellsAboveNone 0 = .ok (.iconst 0, 1) := by decide +kernel
theorem dX11_cellsAboveNone_1 : decode cX11_cellsAboveNone 1 = .ok (.istore_n 1, 1) := by decide +kernel
theorem dX11_cellsAboveNone_2 : decode cX11_cellsAboveNone 2 = .ok (.aload_n 0, 1) := by decide +kernel
theorem dX11_cellsAboveNone_3 : decode cX11_cellsAboveNone 3 = .ok (.astore_n 2, 1) := by decide +kernel
theorem dX11_cellsAboveNone_4 : decode cX11_cellsAboveNone 4 = .ok (.aload_n 2, 1) := by decide +kernel
theorem dX11_cellsAboveNone_5 : decode cX11_cellsAboveNone 5 = .ok (.arraylength, 1) := by decide +kernel
theorem dX11_cellsAboveNone_6 : decode cX11_cellsAboveNone 6 = .ok (.istore_n 3, 1) := by decide +kernel
theorem dX11_cellsAboveNone_7 : decode cX11_cellsAboveNone 7 = .ok (.iconst 0, 1) := by decide +kernel
theorem dX11_cellsAboveNone_8 : decode cX11_cellsAboveNone 8 = .ok (.istore 4, 2) := by decide +kernel
theorem dX11_cellsAboveNone_10 : decode cX11_cellsAboveNone 10 = .ok (.iload 4, 2) := by decide +kernel
theorem dX11_cellsAboveNone_12 : decode cX11_cellsAboveNone 12 = .ok (.iload_n 3, 1) := by decide +kernel
theorem dX11_cellsAboveNone_13 : decode cX11_cellsAboveNone 13 = .ok (.if_icmp .ge 23, 3) := by decide +kernel
theorem dX11_cellsAboveNone_16 : decode cX11_cellsAboveNone 16 = .ok (.aload_n 2, 1) := by decide +kernel
theorem dX11_cellsAboveNone_17 : decode cX11_cellsAboveNone 17 = .ok (.iload 4, 2) := by decide +kernel
theorem dX11_cellsAboveNone_19 : decode cX11_cellsAboveNone 19 = .ok (.iaload, 1) := by decide +kernel
theorem dX11_cellsAboveNone_20 : decode cX11_cellsAboveNone 20 = .ok (.istore 5, 2) := by decide +kernel
theorem dX11_cellsAboveNone_22 : decode cX11_cellsAboveNone 22 = .ok (.iload 5, 2) := by decide +kernel
theorem dX11_cellsAboveNone_24 : decode cX11_cellsAboveNone 24 = .ok (.ifCond .le 6, 3) := by decide +kernel
theorem dX11_cellsAboveNone_27 : decode cX11_cellsAboveNone 27 = .ok (.iinc 1 1, 3) := by decide +kernel
theorem dX11_cellsAboveNone_30 : decode cX11_cellsAboveNone 30 = .ok (.iinc 4 1, 3) := by decide +kernel
theorem dX11_cellsAboveNone_33 : decode cX11_cellsAboveNone 33 = .ok (.goto (-23), 3) := by decide +kernel
theorem dX11_cellsAboveNone_36 : decode cX11_cellsAboveNone 36 = .ok (.iload_n 1, 1) := by decide +kernel
theorem dX11_cellsAboveNone_37 : decode cX11_cellsAboveNone 37 = .ok (.ireturn, 1) := by decide +kernel
theorem dJ6_bitCount_0f7a4_0 : decode cJ6_bitCount_0f7a4 0 = .ok (.iload_n 0, 1) := by decide +kernel
theorem dJ6_bitCount_0f7a4_1 : decode cJ6_bitCount_0f7a4 1 = .ok (.iload_n 0, 1) := by decide +kernel
theorem dJ6_bitCount_0f7a4_2 : decode cJ6_bitCount_0f7a4 2 = .ok (.iconst 1, 1) := by decide +kernel
theorem dJ6_bitCount_0f7a4_3 : decode cJ6_bitCount_0f7a4 3 = .ok (.iushr, 1) := by decide +kernel
theorem dJ6_bitCount_0f7a4_4 : decode cJ6_bitCount_0f7a4 4 = .ok (.ldc_w 265, 3) := by decide +kernel
theorem dJ6_bitCount_0f7a4_7 : decode cJ6_bitCount_0f7a4 7 = .ok (.iand, 1) := by decide +kernel
theorem dJ6_bitCount_0f7a4_8 : decode cJ6_bitCount_0f7a4 8 = .ok (.isub, 1) := by decide +kernel
theorem dJ6_bitCount_0f7a4_9 : decode cJ6_bitCount_0f7a4 9 = .ok (.istore_n 0, 1) := by decide +kernel
theorem dJ6_bitCount_0f7a4_10 : decode cJ6_bitCount_0f7a4 10 = .ok (.iload_n 0, 1) := by decide +kernel
theorem dJ6_bitCount_0f7a4_11 : decode cJ6_bitCount_0f7a4 11 = .ok (.ldc_w 266, 3) := by decide +kernel
theorem dJ6_bitCount_0f7a4_14 : decode cJ6_bitCount_0f7a4 14 = .ok (.iand, 1) := by decide +kernel
theorem dJ6_bitCount_0f7a4_15 : decode cJ6_bitCount_0f7a4 15 = .ok (.iload_n 0, 1) := by decide +kernel
theorem dJ6_bitCount_0f7a4_16 : decode cJ6_bitCount_0f7a4 16 = .ok (.iconst 2, 1) := by decide +kernel
theorem dJ6_bitCount_0f7a4_17 : decode cJ6_bitCount_0f7a4 17 = .ok (.iushr, 1) := by decide +kernel
theorem dJ6_bitCount_0f7a4_18 : decode cJ6_bitCount_0f7a4 18 = .ok (.ldc_w 266, 3) := by decide +kernel
theorem dJ6_bitCount_0f7a4_21 : decode cJ6_bitCount_0f7a4 21 = .ok (.iand, 1) := by decide +kernel
theorem dJ6_bitCount_0f7a4_22 : decode cJ6_bitCount_0f7a4 22 = .ok (.iadd, 1) := by decide +kernel
theorem dJ6_bitCount_0f7a4_23 : decode cJ6_bitCount_0f7a4 23 = .ok (.istore_n 0, 1) := by decide +kernel
theorem dJ6_bitCount_0f7a4_24 : decode cJ6_bitCount_0f7a4 24 = .ok (.iload_n 0, 1) := by decide +kernel
theorem dJ6_bitCount_0f7a4_25 : decode cJ6_bitCount_0f7a4 25 = .ok (.iload_n 0, 1) := by decide +kernel
theorem dJ6_bitCount_0f7a4_26 : decode cJ6_bitCount_0f7a4 26 = .ok (.iconst 4, 1) := by decide +kernel
theorem dJ6_bitCount_0f7a4_27 : decode cJ6_bitCount_0f7a4 27 = .ok (.iushr, 1) := by decide +kernel
theorem dJ6_bitCount_0f7a4_28 : decode cJ6_bitCount_0f7a4 28 = .ok (.iadd, 1) := by decide +kernel
theorem dJ6_bitCount_0f7a4_29 : decode cJ6_bitCount_0f7a4 29 = .ok (.ldc_w 267, 3) := by decide +kernel
theorem dJ6_bitCount_0f7a4_32 : decode cJ6_bitCount_0f7a4 32 = .ok (.iand, 1) := by decide +kernel
theorem dJ6_bitCount_0f7a4_33 : decode cJ6_bitCount_0f7a4 33 = .ok (.istore_n 0, 1) := by decide +kernel
theorem dJ6_bitCount_0f7a4_34 : decode cJ6_bitCount_0f7a4 34 = .ok (.iload_n 0, 1) := by decide +kernel
theorem dJ6_bitCount_0f7a4_35 : decode cJ6_bitCount_0f7a4 35 = .ok (.iload_n 0, 1) := by decide +kernel
theorem dJ6_bitCount_0f7a4_36 : decode cJ6_bitCount_0f7a4 36 = .ok (.bipush 8, 2) := by decide +kernel
theorem dJ6_bitCount_0f7a4_38 : decode cJ6_bitCount_0f7a4 38 = .ok (.iushr, 1) := by decide +kernel
theorem dJ6_bitCount_0f7a4_39 : decode cJ6_bitCount_0f7a4 39 = .ok (.iadd, 1) := by decide +kernel
theorem dJ6_bitCount_0f7a4_40 : decode cJ6_bitCount_0f7a4 40 = .ok (.istore_n 0, 1) := by decide +kernel
theorem dJ6_bitCount_0f7a4_41 : decode cJ6_bitCount_0f7a4 41 = .ok (.iload_n 0, 1) := by decide +kernel
theorem dJ6_bitCount_0f7a4_42 : decode cJ6_bitCount_0f7a4 42 = .ok (.iload_n 0, 1) := by decide +kernel
theorem dJ6_bitCount_0f7a4_43 : decode cJ6_bitCount_0f7a4 43 = .ok (.bipush 16, 2) := by decide +kernel
theorem dJ6_bitCount_0f7a4_45 : decode cJ6_bitCount_0f7a4 45 = .ok (.iushr, 1) := by decide +kernel
theorem dJ6_bitCount_0f7a4_46 : decode cJ6_bitCount_0f7a4 46 = .ok (.iadd, 1) := by decide +kernel
theorem dJ6_bitCount_0f7a4_47 : decode cJ6_bitCount_0f7a4 47 = .ok (.istore_n 0, 1) := by decide +kernel
theorem dJ6_bitCount_0f7a4_48 : decode cJ6_bitCount_0f7a4 48 = .ok (.iload_n 0, 1) := by decide +kernel
theorem dJ6_bitCount_0f7a4_49 : decode cJ6_bitCount_0f7a4 49 = .ok (.bipush 63, 2) := by decide +kernel
theorem dJ6_bitCount_0f7a4_51 : decode cJ6_bitCount_0f7a4 51 = .ok (.iand, 1) := by decide +kernel
theorem dJ6_bitCount_0f7a4_52 : decode cJ6_bitCount_0f7a4 52 = .ok (.ireturn, 1) := by decide +kernel
theorem dJ9_max_7cf53_0 : decode cJ9_max_7cf53 0 = .ok (.iload_n 0, 1) := by decide +kernel
theorem dJ9_max_7cf53_1 : decode cJ9_max_7cf53 1 = .ok (.iload_n 1, 1) := by decide +kernel
theorem dJ9_max_7cf53_2 : decode cJ9_max_7cf53 2 = .ok (.if_icmp .lt 7, 3) := by decide +kernel
theorem dJ9_max_7cf53_5 : decode cJ9_max_7cf53 5 = .ok (.iload_n 0, 1) := by decide +kernel
theorem dJ9_max_7cf53_6 : decode cJ9_max_7cf53 6 = .ok (.goto 4, 3) := by decide +kernel
theorem dJ9_max_7cf53_9 : decode cJ9_max_7cf53 9 = .ok (.iload_n 1, 1) := by decide +kernel
theorem dJ9_max_7cf53_10 : decode cJ9_max_7cf53 10 = .ok (.ireturn, 1) := by decide +kernel
theorem dJ9_min_7cf53_0 : decode cJ9_min_7cf53 0 = .ok (.iload_n 0, 1) := by decide +kernel
theorem dJ9_min_7cf53_1 : decode cJ9_min_7cf53 1 = .ok (.iload_n 1, 1) := by decide +kernel
theorem dJ9_min_7cf53_2 : decode cJ9_min_7cf53 2 = .ok (.if_icmp .gt 7, 3) := by decide +kernel
theorem dJ9_min_7cf53_5 : decode cJ9_min_7cf53 5 = .ok (.iload_n 0, 1) := by decide +kernel
theorem dJ9_min_7cf53_6 : decode cJ9_min_7cf53 6 = .ok (.goto 4, 3) := by decide +kernel
theorem dJ9_min_7cf53_9 : decode cJ9_min_7cf53 9 = .ok (.iload_n 1, 1) := by decide +kernel
theorem dJ9_min_7cf53_10 : decode cJ9_min_7cf53 10 = .ok (.ireturn, 1) := by decide +kernel
theorem dJxa1e45_init_da8c8_0 : decode cJxa1e45_init_da8c8 0 = .ok (.aload_n 0, 1) := by decide +kernel
theorem dJxa1e45_init_da8c8_1 : decode cJxa1e45_init_da8c8 1 = .ok (.invokespecial 1, 3) := by decide +kernel
theorem dJxa1e45_init_da8c8_4 : decode cJxa1e45_init_da8c8 4 = .ok (.return_, 1) := by decide +kernel
theorem dJxc12de_init_da8c8_0 : decode cJxc12de_init_da8c8 0 = .ok (.aload_n 0, 1) := by decide +kernel
theorem dJxc12de_init_da8c8_1 : decode cJxc12de_init_da8c8 1 = .ok (.invokespecial 1, 3) := by decide +kernel
theorem dJxc12de_init_da8c8_4 : decode cJxc12de_init_da8c8 4 = .ok (.aload_n 0, 1) := by decide +kernel
theorem dJxc12de_init_da8c8_5 : decode cJxc12de_init_da8c8 5 = .ok (.iconst 0, 1) := by decide +kernel
theorem dJxc12de_init_da8c8_6 : decode cJxc12de_init_da8c8 6 = .ok (.putfield 7, 3) := by decide +kernel
theorem dJxc12de_init_da8c8_9 : decode cJxc12de_init_da8c8 9 = .ok (.return_, 1) := by decide +kernel
theorem dJx4a65c_init_da8c8_0 : decode cJx4a65c_init_da8c8 0 = .ok (.aload_n 0, 1) := by decide +kernel
theorem dJx4a65c_init_da8c8_1 : decode cJx4a65c_init_da8c8 1 = .ok (.invokespecial 1, 3) := by decide +kernel
theorem dJx4a65c_init_da8c8_4 : decode cJx4a65c_init_da8c8 4 = .ok (.aload_n 0, 1) := by decide +kernel
theorem dJx4a65c_init_da8c8_5 : decode cJx4a65c_init_da8c8 5 = .ok (.getstatic 39, 3) := by decide +kernel
theorem dJx4a65c_init_da8c8_8 : decode cJx4a65c_init_da8c8 8 = .ok (.putfield 9, 3) := by decide +kernel
theorem dJx4a65c_init_da8c8_11 : decode cJx4a65c_init_da8c8 11 = .ok (.return_, 1) := by decide +kernel
theorem dJx4a65c_grow_92f84_0 : decode cJx4a65c_grow_92f84 0 = .ok (.aload_n 0, 1) := by decide +kernel
theorem dJx4a65c_grow_92f84_1 : decode cJx4a65c_grow_92f84 1 = .ok (.getfield 9, 3) := by decide +kernel
theorem dJx4a65c_grow_92f84_4 : decode cJx4a65c_grow_92f84 4 = .ok (.arraylength, 1) := by decide +kernel
theorem dJx4a65c_grow_92f84_5 : decode cJx4a65c_grow_92f84 5 = .ok (.istore_n 2, 1) := by decide +kernel
theorem dJx4a65c_grow_92f84_6 : decode cJx4a65c_grow_92f84 6 = .ok (.iload_n 2, 1) := by decide +kernel
theorem dJx4a65c_grow_92f84_7 : decode cJx4a65c_grow_92f84 7 = .ok (.ifCond .gt 13, 3) := by decide +kernel
theorem dJx4a65c_grow_92f84_10 : decode cJx4a65c_grow_92f84 10 = .ok (.aload_n 0, 1) := by decide +kernel
theorem dJx4a65c_grow_92f84_11 : decode cJx4a65c_grow_92f84 11 = .ok (.getfield 9, 3) := by decide +kernel
theorem dJx4a65c_grow_92f84_14 : decode cJx4a65c_grow_92f84 14 = .ok (.getstatic 39, 3) := by decide +kernel
theorem dJx4a65c_grow_92f84_17 : decode cJx4a65c_grow_92f84 17 = .ok (.if_acmp .eq 28, 3) := by decide +kernel
theorem dJx4a65c_grow_92f84_20 : decode cJx4a65c_grow_92f84 20 = .ok (.iload_n 2, 1) := by decide +kernel
theorem dJx4a65c_grow_92f84_21 : decode cJx4a65c_grow_92f84 21 = .ok (.iload_n 1, 1) := by decide +kernel
theorem dJx4a65c_grow_92f84_22 : decode cJx4a65c_grow_92f84 22 = .ok (.iload_n 2, 1) := by decide +kernel
theorem dJx4a65c_grow_92f84_23 : decode cJx4a65c_grow_92f84 23 = .ok (.isub, 1) := by decide +kernel
theorem dJx4a65c_grow_92f84_24 : decode cJx4a65c_grow_92f84 24 = .ok (.iload_n 2, 1) := by decide +kernel
theorem dJx4a65c_grow_92f84_25 : decode cJx4a65c_grow_92f84 25 = .ok (.iconst 1, 1) := by decide +kernel
theorem dJx4a65c_grow_92f84_26 : decode cJx4a65c_grow_92f84 26 = .ok (.ishr, 1) := by decide +kernel
theorem dJx4a65c_grow_92f84_27 : decode cJx4a65c_grow_92f84 27 = .ok (.invokestatic 73, 3) := by decide +kernel
theorem dJx4a65c_grow_92f84_30 : decode cJx4a65c_grow_92f84 30 = .ok (.istore_n 3, 1) := by decide +kernel
theorem dJx4a65c_grow_92f84_31 : decode cJx4a65c_grow_92f84 31 = .ok (.aload_n 0, 1) := by decide +kernel
theorem dJx4a65c_grow_92f84_32 : decode cJx4a65c_grow_92f84 32 = .ok (.aload_n 0, 1) := by decide +kernel
theorem dJx4a65c_grow_92f84_33 : decode cJx4a65c_grow_92f84 33 = .ok (.getfield 9, 3) := by decide +kernel
theorem dJx4a65c_grow_92f84_36 : decode cJx4a65c_grow_92f84 36 = .ok (.iload_n 3, 1) := by decide +kernel
theorem dJx4a65c_grow_92f84_37 : decode cJx4a65c_grow_92f84 37 = .ok (.invokestatic 66, 3) := by decide +kernel
theorem dJx4a65c_grow_92f84_40 : decode cJx4a65c_grow_92f84 40 = .ok (.dup_x1, 1) := by decide +kernel
theorem dJx4a65c_grow_92f84_41 : decode cJx4a65c_grow_92f84 41 = .ok (.putfield 9, 3) := by decide +kernel
theorem dJx4a65c_grow_92f84_44 : decode cJx4a65c_grow_92f84 44 = .ok (.areturn, 1) := by decide +kernel
theorem dJx4a65c_grow_92f84_45 : decode cJx4a65c_grow_92f84 45 = .ok (.aload_n 0, 1) := by decide +kernel
theorem dJx4a65c_grow_92f84_46 : decode cJx4a65c_grow_92f84 46 = .ok (.bipush 10, 2) := by decide +kernel
theorem dJx4a65c_grow_92f84_48 : decode cJx4a65c_grow_92f84 48 = .ok (.iload_n 1, 1) := by decide +kernel
theorem dJx4a65c_grow_92f84_49 : decode cJx4a65c_grow_92f84 49 = .ok (.invokestatic 79, 3) := by decide +kernel
theorem dJx4a65c_grow_92f84_52 : decode cJx4a65c_grow_92f84 52 = .ok (.anewarray 7, 3) := by decide +kernel
theorem dJx4a65c_grow_92f84_55 : decode cJx4a65c_grow_92f84 55 = .ok (.dup_x1, 1) := by decide +kernel
theorem dJx4a65c_grow_92f84_56 : decode cJx4a65c_grow_92f84 56 = .ok (.putfield 9, 3) := by decide +kernel
theorem dJx4a65c_grow_92f84_59 : decode cJx4a65c_grow_92f84 59 = .ok (.areturn, 1) := by decide +kernel
theorem dJx4a65c_grow_d5877_0 : decode cJx4a65c_grow_d5877 0 = .ok (.aload_n 0, 1) := by decide +kernel
theorem dJx4a65c_grow_d5877_1 : decode cJx4a65c_grow_d5877 1 = .ok (.aload_n 0, 1) := by decide +kernel
theorem dJx4a65c_grow_d5877_2 : decode cJx4a65c_grow_d5877 2 = .ok (.getfield 48, 3) := by decide +kernel
theorem dJx4a65c_grow_d5877_5 : decode cJx4a65c_grow_d5877 5 = .ok (.iconst 1, 1) := by decide +kernel
theorem dJx4a65c_grow_d5877_6 : decode cJx4a65c_grow_d5877 6 = .ok (.iadd, 1) := by decide +kernel
theorem dJx4a65c_grow_d5877_7 : decode cJx4a65c_grow_d5877 7 = .ok (.invokevirtual 69, 3) := by decide +kernel
theorem dJx4a65c_grow_d5877_10 : decode cJx4a65c_grow_d5877 10 = .ok (.areturn, 1) := by decide +kernel
theorem dJx4a65c_size_8abf5_0 : decode cJx4a65c_size_8abf5 0 = .ok (.aload_n 0, 1) := by decide +kernel
theorem dJx4a65c_size_8abf5_1 : decode cJx4a65c_size_8abf5 1 = .ok (.getfield 48, 3) := by decide +kernel
theorem dJx4a65c_size_8abf5_4 : decode cJx4a65c_size_8abf5 4 = .ok (.ireturn, 1) := by decide +kernel
theorem dJx4a65c_elementData_915e3_0 : decode cJx4a65c_elementData_915e3 0 = .ok (.aload_n 0, 1) := by decide +kernel
theorem dJx4a65c_elementData_915e3_1 : decode cJx4a65c_elementData_915e3 1 = .ok (.getfield 9, 3) := by decide +kernel
theorem dJx4a65c_elementData_915e3_4 : decode cJx4a65c_elementData_915e3 4 = .ok (.iload_n 1, 1) := by decide +kernel
theorem dJx4a65c_elementData_915e3_5 : decode cJx4a65c_elementData_915e3 5 = .ok (.aaload, 1) := by decide +kernel
theorem dJx4a65c_elementData_915e3_6 : decode cJx4a65c_elementData_915e3 6 = .ok (.areturn, 1) := by decide +kernel
theorem dJx4a65c_get_915e3_0 : decode cJx4a65c_get_915e3 0 = .ok (.iload_n 1, 1) := by decide +kernel
theorem dJx4a65c_get_915e3_1 : decode cJx4a65c_get_915e3 1 = .ok (.aload_n 0, 1) := by decide +kernel
theorem dJx4a65c_get_915e3_2 : decode cJx4a65c_get_915e3 2 = .ok (.getfield 48, 3) := by decide +kernel
theorem dJx4a65c_get_915e3_5 : decode cJx4a65c_get_915e3 5 = .ok (.invokestatic 118, 3) := by decide +kernel
theorem dJx4a65c_get_915e3_8 : decode cJx4a65c_get_915e3 8 = .ok (.pop, 1) := by decide +kernel
theorem dJx4a65c_get_915e3_9 : decode cJx4a65c_get_915e3 9 = .ok (.aload_n 0, 1) := by decide +kernel
theorem dJx4a65c_get_915e3_10 : decode cJx4a65c_get_915e3 10 = .ok (.iload_n 1, 1) := by decide +kernel
theorem dJx4a65c_get_915e3_11 : decode cJx4a65c_get_915e3 11 = .ok (.invokevirtual 123, 3) := by decide +kernel
theorem dJx4a65c_get_915e3_14 : decode cJx4a65c_get_915e3 14 = .ok (.areturn, 1) := by decide +kernel
theorem dJx4a65c_add_72be8_0 : decode cJx4a65c_add_72be8 0 = .ok (.iload_n 3, 1) := by decide +kernel
theorem dJx4a65c_add_72be8_1 : decode cJx4a65c_add_72be8 1 = .ok (.aload_n 2, 1) := by decide +kernel
theorem dJx4a65c_add_72be8_2 : decode cJx4a65c_add_72be8 2 = .ok (.arraylength, 1) := by decide +kernel
theorem dJx4a65c_add_72be8_3 : decode cJx4a65c_add_72be8 3 = .ok (.if_icmp .ne 8, 3) := by decide +kernel
theorem dJx4a65c_add_72be8_6 : decode cJx4a65c_add_72be8 6 = .ok (.aload_n 0, 1) := by decide +kernel
theorem dJx4a65c_add_72be8_7 : decode cJx4a65c_add_72be8 7 = .ok (.invokevirtual 129, 3) := by decide +kernel
theorem dJx4a65c_add_72be8_10 : decode cJx4a65c_add_72be8 10 = .ok (.astore_n 2, 1) := by decide +kernel
theorem dJx4a65c_add_72be8_11 : decode cJx4a65c_add_72be8 11 = .ok (.aload_n 2, 1) := by decide +kernel
theorem dJx4a65c_add_72be8_12 : decode cJx4a65c_add_72be8 12 = .ok (.iload_n 3, 1) := by decide +kernel
theorem dJx4a65c_add_72be8_13 : decode cJx4a65c_add_72be8 13 = .ok (.aload_n 1, 1) := by decide +kernel
theorem dJx4a65c_add_72be8_14 : decode cJx4a65c_add_72be8 14 = .ok (.aastore, 1) := by decide +kernel
theorem dJx4a65c_add_72be8_15 : decode cJx4a65c_add_72be8 15 = .ok (.aload_n 0, 1) := by decide +kernel
theorem dJx4a65c_add_72be8_16 : decode cJx4a65c_add_72be8 16 = .ok (.iload_n 3, 1) := by decide +kernel
theorem dJx4a65c_add_72be8_17 : decode cJx4a65c_add_72be8 17 = .ok (.iconst 1, 1) := by decide +kernel
theorem dJx4a65c_add_72be8_18 : decode cJx4a65c_add_72be8 18 = .ok (.iadd, 1) := by decide +kernel
theorem dJx4a65c_add_72be8_19 : decode cJx4a65c_add_72be8 19 = .ok (.putfield 48, 3) := by decide +kernel
theorem dJx4a65c_add_72be8_22 : decode cJx4a65c_add_72be8 22 = .ok (.return_, 1) := by decide +kernel
theorem dJx4a65c_add_9ea2d_0 : decode cJx4a65c_add_9ea2d 0 = .ok (.aload_n 0, 1) := by decide +kernel
theorem dJx4a65c_add_9ea2d_1 : decode cJx4a65c_add_9ea2d 1 = .ok (.dup, 1) := by decide +kernel
theorem dJx4a65c_add_9ea2d_2 : decode cJx4a65c_add_9ea2d 2 = .ok (.getfield 63, 3) := by decide +kernel
theorem dJx4a65c_add_9ea2d_5 : decode cJx4a65c_add_9ea2d 5 = .ok (.iconst 1, 1) := by decide +kernel
theorem dJx4a65c_add_9ea2d_6 : decode cJx4a65c_add_9ea2d 6 = .ok (.iadd, 1) := by decide +kernel
theorem dJx4a65c_add_9ea2d_7 : decode cJx4a65c_add_9ea2d 7 = .ok (.putfield 63, 3) := by decide +kernel
theorem dJx4a65c_add_9ea2d_10 : decode cJx4a65c_add_9ea2d 10 = .ok (.aload_n 0, 1) := by decide +kernel
theorem dJx4a65c_add_9ea2d_11 : decode cJx4a65c_add_9ea2d 11 = .ok (.aload_n 1, 1) := by decide +kernel
theorem dJx4a65c_add_9ea2d_12 : decode cJx4a65c_add_9ea2d 12 = .ok (.aload_n 0, 1) := by decide +kernel
theorem dJx4a65c_add_9ea2d_13 : decode cJx4a65c_add_9ea2d 13 = .ok (.getfield 9, 3) := by decide +kernel
theorem dJx4a65c_add_9ea2d_16 : decode cJx4a65c_add_9ea2d 16 = .ok (.aload_n 0, 1) := by decide +kernel
theorem dJx4a65c_add_9ea2d_17 : decode cJx4a65c_add_9ea2d 17 = .ok (.getfield 48, 3) := by decide +kernel
theorem dJx4a65c_add_9ea2d_20 : decode cJx4a65c_add_9ea2d 20 = .ok (.invokevirtual 131, 3) := by decide +kernel
theorem dJx4a65c_add_9ea2d_23 : decode cJx4a65c_add_9ea2d 23 = .ok (.iconst 1, 1) := by decide +kernel
theorem dJx4a65c_add_9ea2d_24 : decode cJx4a65c_add_9ea2d 24 = .ok (.ireturn, 1) := by decide +kernel
theorem dJ7_fill_53178_0 : decode cJ7_fill_53178 0 = .ok (.iconst 0, 1) := by decide +kernel
theorem dJ7_fill_53178_1 : decode cJ7_fill_53178 1 = .ok (.istore_n 2, 1) := by decide +kernel
theorem dJ7_fill_53178_2 : decode cJ7_fill_53178 2 = .ok (.aload_n 0, 1) := by decide +kernel
theorem dJ7_fill_53178_3 : decode cJ7_fill_53178 3 = .ok (.arraylength, 1) := by decide +kernel
theorem dJ7_fill_53178_4 : decode cJ7_fill_53178 4 = .ok (.istore_n 3, 1) := by decide +kernel
theorem dJ7_fill_53178_5 : decode cJ7_fill_53178 5 = .ok (.iload_n 2, 1) := by decide +kernel
theorem dJ7_fill_53178_6 : decode cJ7_fill_53178 6 = .ok (.iload_n 3, 1) := by decide +kernel
theorem dJ7_fill_53178_7 : decode cJ7_fill_53178 7 = .ok (.if_icmp .ge 13, 3) := by decide +kernel
theorem dJ7_fill_53178_10 : decode cJ7_fill_53178 10 = .ok (.aload_n 0, 1) := by decide +kernel
theorem dJ7_fill_53178_11 : decode cJ7_fill_53178 11 = .ok (.iload_n 2, 1) := by decide +kernel
theorem dJ7_fill_53178_12 : decode cJ7_fill_53178 12 = .ok (.iload_n 1, 1) := by decide +kernel
theorem dJ7_fill_53178_13 : decode cJ7_fill_53178 13 = .ok (.iastore, 1) := by decide +kernel
theorem dJ7_fill_53178_14 : decode cJ7_fill_53178 14 = .ok (.iinc 2 1, 3) := by decide +kernel
theorem dJ7_fill_53178_17 : decode cJ7_fill_53178 17 = .ok (.goto (-12), 3) := by decide +kernel
theorem dJ7_fill_53178_20 : decode cJ7_fill_53178 20 = .ok (.return_, 1) := by decide +kernel
theorem dJ7_copyOf_1904c_0 : decode cJ7_copyOf_1904c 0 = .ok (.aload_n 0, 1) := by decide +kernel
theorem dJ7_copyOf_1904c_1 : decode cJ7_copyOf_1904c 1 = .ok (.iload_n 1, 1) := by decide +kernel
theorem dJ7_copyOf_1904c_2 : decode cJ7_copyOf_1904c 2 = .ok (.aload_n 0, 1) := by decide +kernel
theorem dJ7_copyOf_1904c_3 : decode cJ7_copyOf_1904c 3 = .ok (.invokevirtual 86, 3) := by decide +kernel
theorem dJ7_copyOf_1904c_6 : decode cJ7_copyOf_1904c 6 = .ok (.invokestatic 300, 3) := by decide +kernel
theorem dJ7_copyOf_1904c_9 : decode cJ7_copyOf_1904c 9 = .ok (.areturn, 1) := by decide +kernel
theorem dJ7_copyOf_6403c_0 : decode cJ7_copyOf_6403c 0 = .ok (.aload_n 2, 1) := by decide +kernel
theorem dJ7_copyOf_6403c_1 : decode cJ7_copyOf_6403c 1 = .ok (.ldc 110, 2) := by decide +kernel
theorem dJ7_copyOf_6403c_3 : decode cJ7_copyOf_6403c 3 = .ok (.if_acmp .ne 10, 3) := by decide +kernel
theorem dJ7_copyOf_6403c_6 : decode cJ7_copyOf_6403c 6 = .ok (.iload_n 1, 1) := by decide +kernel
theorem dJ7_copyOf_6403c_7 : decode cJ7_copyOf_6403c 7 = .ok (.anewarray 2, 3) := by decide +kernel
theorem dJ7_copyOf_6403c_10 : decode cJ7_copyOf_6403c 10 = .ok (.goto 14, 3) := by decide +kernel
theorem dJ7_copyOf_6403c_13 : decode cJ7_copyOf_6403c 13 = .ok (.aload_n 2, 1) := by decide +kernel
theorem dJ7_copyOf_6403c_14 : decode cJ7_copyOf_6403c 14 = .ok (.invokevirtual 90, 3) := by decide +kernel
theorem dJ7_copyOf_6403c_17 : decode cJ7_copyOf_6403c 17 = .ok (.iload_n 1, 1) := by decide +kernel
theorem dJ7_copyOf_6403c_18 : decode cJ7_copyOf_6403c 18 = .ok (.invokestatic 95, 3) := by decide +kernel
theorem dJ7_copyOf_6403c_21 : decode cJ7_copyOf_6403c 21 = .ok (.checkcast 110, 3) := by decide +kernel
theorem dJ7_copyOf_6403c_24 : decode cJ7_copyOf_6403c 24 = .ok (.astore_n 3, 1) := by decide +kernel
theorem dJ7_copyOf_6403c_25 : decode cJ7_copyOf_6403c 25 = .ok (.aload_n 0, 1) := by decide +kernel
theorem dJ7_copyOf_6403c_26 : decode cJ7_copyOf_6403c 26 = .ok (.iconst 0, 1) := by decide +kernel
theorem dJ7_copyOf_6403c_27 : decode cJ7_copyOf_6403c 27 = .ok (.aload_n 3, 1) := by decide +kernel
theorem dJ7_copyOf_6403c_28 : decode cJ7_copyOf_6403c 28 = .ok (.iconst 0, 1) := by decide +kernel
theorem dJ7_copyOf_6403c_29 : decode cJ7_copyOf_6403c 29 = .ok (.aload_n 0, 1) := by decide +kernel
theorem dJ7_copyOf_6403c_30 : decode cJ7_copyOf_6403c 30 = .ok (.arraylength, 1) := by decide +kernel
theorem dJ7_copyOf_6403c_31 : decode cJ7_copyOf_6403c 31 = .ok (.iload_n 1, 1) := by decide +kernel
theorem dJ7_copyOf_6403c_32 : decode cJ7_copyOf_6403c 32 = .ok (.invokestatic 304, 3) := by decide +kernel
theorem dJ7_copyOf_6403c_35 : decode cJ7_copyOf_6403c 35 = .ok (.invokestatic 150, 3) := by decide +kernel
theorem dJ7_copyOf_6403c_38 : decode cJ7_copyOf_6403c 38 = .ok (.aload_n 3, 1) := by decide +kernel
theorem dJ7_copyOf_6403c_39 : decode cJ7_copyOf_6403c 39 = .ok (.areturn, 1) := by decide +kernel
theorem dJ7_copyOf_59c91_0 : decode cJ7_copyOf_59c91 0 = .ok (.iload_n 1, 1) := by decide +kernel
theorem dJ7_copyOf_59c91_1 : decode cJ7_copyOf_59c91 1 = .ok (.aload_n 0, 1) := by decide +kernel
theorem dJ7_copyOf_59c91_2 : decode cJ7_copyOf_59c91 2 = .ok (.arraylength, 1) := by decide +kernel
theorem dJ7_copyOf_59c91_3 : decode cJ7_copyOf_59c91 3 = .ok (.if_icmp .ne 11, 3) := by decide +kernel
theorem dJ7_copyOf_59c91_6 : decode cJ7_copyOf_59c91 6 = .ok (.aload_n 0, 1) := by decide +kernel
theorem dJ7_copyOf_59c91_7 : decode cJ7_copyOf_59c91 7 = .ok (.invokevirtual 316, 3) := by decide +kernel
theorem dJ7_copyOf_59c91_10 : decode cJ7_copyOf_59c91 10 = .ok (.checkcast 317, 3) := by decide +kernel
theorem dJ7_copyOf_59c91_13 : decode cJ7_copyOf_59c91 13 = .ok (.areturn, 1) := by decide +kernel
theorem dJ7_copyOf_59c91_14 : decode cJ7_copyOf_59c91 14 = .ok (.iload_n 1, 1) := by decide +kernel
theorem dJ7_copyOf_59c91_15 : decode cJ7_copyOf_59c91 15 = .ok (.newarray .int, 2) := by decide +kernel
theorem dJ7_copyOf_59c91_17 : decode cJ7_copyOf_59c91 17 = .ok (.astore_n 2, 1) := by decide +kernel
theorem dJ7_copyOf_59c91_18 : decode cJ7_copyOf_59c91 18 = .ok (.aload_n 0, 1) := by decide +kernel
theorem dJ7_copyOf_59c91_19 : decode cJ7_copyOf_59c91 19 = .ok (.iconst 0, 1) := by decide +kernel
theorem dJ7_copyOf_59c91_20 : decode cJ7_copyOf_59c91 20 = .ok (.aload_n 2, 1) := by decide +kernel
theorem dJ7_copyOf_59c91_21 : decode cJ7_copyOf_59c91 21 = .ok (.iconst 0, 1) := by decide +kernel
theorem dJ7_copyOf_59c91_22 : decode cJ7_copyOf_59c91 22 = .ok (.aload_n 0, 1) := by decide +kernel
theorem dJ7_copyOf_59c91_23 : decode cJ7_copyOf_59c91 23 = .ok (.arraylength, 1) := by decide +kernel
theorem dJ7_copyOf_59c91_24 : decode cJ7_copyOf_59c91 24 = .ok (.iload_n 1, 1) := by decide +kernel
theorem dJ7_copyOf_59c91_25 : decode cJ7_copyOf_59c91 25 = .ok (.invokestatic 304, 3) := by decide +kernel
theorem dJ7_copyOf_59c91_28 : decode cJ7_copyOf_59c91 28 = .ok (.invokestatic 150, 3) := by decide +kernel
theorem dJ7_copyOf_59c91_31 : decode cJ7_copyOf_59c91 31 = .ok (.aload_n 2, 1) := by decide +kernel
theorem dJ7_copyOf_59c91_32 : decode cJ7_copyOf_59c91 32 = .ok (.areturn, 1) := by decide +kernel
theorem dJ15_checkIndex_7cf53_0 : decode cJ15_checkIndex_7cf53 0 = .ok (.iload_n 0, 1) := by decide +kernel
theorem dJ15_checkIndex_7cf53_1 : decode cJ15_checkIndex_7cf53 1 = .ok (.iload_n 1, 1) := by decide +kernel
theorem dJ15_checkIndex_7cf53_2 : decode cJ15_checkIndex_7cf53 2 = .ok (.aconst_null, 1) := by decide +kernel
theorem dJ15_checkIndex_7cf53_3 : decode cJ15_checkIndex_7cf53 3 = .ok (.invokestatic 105, 3) := by decide +kernel
theorem dJ15_checkIndex_7cf53_6 : decode cJ15_checkIndex_7cf53 6 = .ok (.ireturn, 1) := by decide +kernel
theorem dJ8_newLength_cabcc_0 : decode cJ8_newLength_cabcc 0 = .ok (.iload_n 0, 1) := by decide +kernel
theorem dJ8_newLength_cabcc_1 : decode cJ8_newLength_cabcc 1 = .ok (.iload_n 1, 1) := by decide +kernel
theorem dJ8_newLength_cabcc_2 : decode cJ8_newLength_cabcc 2 = .ok (.iload_n 2, 1) := by decide +kernel
theorem dJ8_newLength_cabcc_3 : decode cJ8_newLength_cabcc 3 = .ok (.invokestatic 194, 3) := by decide +kernel
theorem dJ8_newLength_cabcc_6 : decode cJ8_newLength_cabcc 6 = .ok (.iadd, 1) := by decide +kernel
theorem dJ8_newLength_cabcc_7 : decode cJ8_newLength_cabcc 7 = .ok (.istore_n 3, 1) := by decide +kernel
theorem dJ8_newLength_cabcc_8 : decode cJ8_newLength_cabcc 8 = .ok (.iconst 0, 1) := by decide +kernel
theorem dJ8_newLength_cabcc_9 : decode cJ8_newLength_cabcc 9 = .ok (.iload_n 3, 1) := by decide +kernel
theorem dJ8_newLength_cabcc_10 : decode cJ8_newLength_cabcc 10 = .ok (.if_icmp .ge 11, 3) := by decide +kernel
theorem dJ8_newLength_cabcc_13 : decode cJ8_newLength_cabcc 13 = .ok (.iload_n 3, 1) := by decide +kernel
theorem dJ8_newLength_cabcc_14 : decode cJ8_newLength_cabcc 14 = .ok (.ldc 200, 2) := by decide +kernel
theorem dJ8_newLength_cabcc_16 : decode cJ8_newLength_cabcc 16 = .ok (.if_icmp .gt 5, 3) := by decide +kernel
theorem dJ8_newLength_cabcc_19 : decode cJ8_newLength_cabcc 19 = .ok (.iload_n 3, 1) := by decide +kernel
theorem dJ8_newLength_cabcc_20 : decode cJ8_newLength_cabcc 20 = .ok (.ireturn, 1) := by decide +kernel
theorem dJ8_newLength_cabcc_21 : decode cJ8_newLength_cabcc 21 = .ok (.iload_n 0, 1) := by decide +kernel
theorem dJ8_newLength_cabcc_22 : decode cJ8_newLength_cabcc 22 = .ok (.iload_n 1, 1) := by decide +kernel
theorem dJ8_newLength_cabcc_23 : decode cJ8_newLength_cabcc 23 = .ok (.invokestatic 201, 3) := by decide +kernel
theorem dJ8_newLength_cabcc_26 : decode cJ8_newLength_cabcc 26 = .ok (.ireturn, 1) := by decide +kernel
theorem dJ8_hugeLength_7cf53_0 : decode cJ8_hugeLength_7cf53 0 = .ok (.iload_n 0, 1) := by decide +kernel
theorem dJ8_hugeLength_7cf53_1 : decode cJ8_hugeLength_7cf53 1 = .ok (.iload_n 1, 1) := by decide +kernel
theorem dJ8_hugeLength_7cf53_2 : decode cJ8_hugeLength_7cf53 2 = .ok (.iadd, 1) := by decide +kernel
theorem dJ8_hugeLength_7cf53_3 : decode cJ8_hugeLength_7cf53 3 = .ok (.istore_n 2, 1) := by decide +kernel
theorem dJ8_hugeLength_7cf53_4 : decode cJ8_hugeLength_7cf53 4 = .ok (.iload_n 2, 1) := by decide +kernel
theorem dJ8_hugeLength_7cf53_5 : decode cJ8_hugeLength_7cf53 5 = .ok (.ifCond .ge 44, 3) := by decide +kernel
theorem dJ8_hugeLength_7cf53_8 : decode cJ8_hugeLength_7cf53 8 = .ok (.new 204, 3) := by decide +kernel
theorem dJ8_hugeLength_7cf53_11 : decode cJ8_hugeLength_7cf53 11 = .ok (.dup, 1) := by decide +kernel
theorem dJ8_hugeLength_7cf53_12 : decode cJ8_hugeLength_7cf53 12 = .ok (.new 89, 3) := by decide +kernel
theorem dJ8_hugeLength_7cf53_15 : decode cJ8_hugeLength_7cf53 15 = .ok (.dup, 1) := by decide +kernel
theorem dJ8_hugeLength_7cf53_16 : decode cJ8_hugeLength_7cf53 16 = .ok (.invokespecial 91, 3) := by decide +kernel
theorem dJ8_hugeLength_7cf53_19 : decode cJ8_hugeLength_7cf53 19 = .ok (.ldc 206, 2) := by decide +kernel
theorem dJ8_hugeLength_7cf53_21 : decode cJ8_hugeLength_7cf53 21 = .ok (.invokevirtual 94, 3) := by decide +kernel
theorem dJ8_hugeLength_7cf53_24 : decode cJ8_hugeLength_7cf53 24 = .ok (.iload_n 0, 1) := by decide +kernel
theorem dJ8_hugeLength_7cf53_25 : decode cJ8_hugeLength_7cf53 25 = .ok (.invokevirtual 98, 3) := by decide +kernel
theorem dJ8_hugeLength_7cf53_28 : decode cJ8_hugeLength_7cf53 28 = .ok (.ldc 208, 2) := by decide +kernel
theorem dJ8_hugeLength_7cf53_30 : decode cJ8_hugeLength_7cf53 30 = .ok (.invokevirtual 94, 3) := by decide +kernel
theorem dJ8_hugeLength_7cf53_33 : decode cJ8_hugeLength_7cf53 33 = .ok (.iload_n 1, 1) := by decide +kernel
theorem dJ8_hugeLength_7cf53_34 : decode cJ8_hugeLength_7cf53 34 = .ok (.invokevirtual 98, 3) := by decide +kernel
theorem dJ8_hugeLength_7cf53_37 : decode cJ8_hugeLength_7cf53 37 = .ok (.ldc 210, 2) := by decide +kernel
theorem dJ8_hugeLength_7cf53_39 : decode cJ8_hugeLength_7cf53 39 = .ok (.invokevirtual 94, 3) := by decide +kernel
theorem dJ8_hugeLength_7cf53_42 : decode cJ8_hugeLength_7cf53 42 = .ok (.invokevirtual 101, 3) := by decide +kernel
theorem dJ8_hugeLength_7cf53_45 : decode cJ8_hugeLength_7cf53 45 = .ok (.invokespecial 212, 3) := by decide +kernel
theorem dJ8_hugeLength_7cf53_48 : decode cJ8_hugeLength_7cf53 48 = .ok (.athrow, 1) := by decide +kernel
theorem dJ8_hugeLength_7cf53_49 : decode cJ8_hugeLength_7cf53 49 = .ok (.iload_n 2, 1) := by decide +kernel
theorem dJ8_hugeLength_7cf53_50 : decode cJ8_hugeLength_7cf53 50 = .ok (.ldc 200, 2) := by decide +kernel
theorem dJ8_hugeLength_7cf53_52 : decode cJ8_hugeLength_7cf53 52 = .ok (.if_icmp .gt 6, 3) := by decide +kernel
theorem dJ8_hugeLength_7cf53_55 : decode cJ8_hugeLength_7cf53 55 = .ok (.ldc 200, 2) := by decide +kernel
theorem dJ8_hugeLength_7cf53_57 : decode cJ8_hugeLength_7cf53 57 = .ok (.ireturn, 1) := by decide +kernel
theorem dJ8_hugeLength_7cf53_58 : decode cJ8_hugeLength_7cf53 58 = .ok (.iload_n 2, 1) := by decide +kernel
theorem dJ8_hugeLength_7cf53_59 : decode cJ8_hugeLength_7cf53 59 = .ok (.ireturn, 1) := by decide +kernel
theorem dJ3_checkIndex_8e157_0 : decode cJ3_checkIndex_8e157 0 = .ok (.iload_n 0, 1) := by decide +kernel
theorem dJ3_checkIndex_8e157_1 : decode cJ3_checkIndex_8e157 1 = .ok (.ifCond .lt 8, 3) := by decide +kernel
theorem dJ3_checkIndex_8e157_4 : decode cJ3_checkIndex_8e157 4 = .ok (.iload_n 0, 1) := by decide +kernel
theorem dJ3_checkIndex_8e157_5 : decode cJ3_checkIndex_8e157 5 = .ok (.iload_n 1, 1) := by decide +kernel
theorem dJ3_checkIndex_8e157_6 : decode cJ3_checkIndex_8e157 6 = .ok (.if_icmp .lt 10, 3) := by decide +kernel
theorem dJ3_checkIndex_8e157_9 : decode cJ3_checkIndex_8e157 9 = .ok (.aload_n 2, 1) := by decide +kernel
theorem dJ3_checkIndex_8e157_10 : decode cJ3_checkIndex_8e157 10 = .ok (.iload_n 0, 1) := by decide +kernel
theorem dJ3_checkIndex_8e157_11 : decode cJ3_checkIndex_8e157 11 = .ok (.iload_n 1, 1) := by decide +kernel
theorem dJ3_checkIndex_8e157_12 : decode cJ3_checkIndex_8e157 12 = .ok (.invokestatic 95, 3) := by decide +kernel
theorem dJ3_checkIndex_8e157_15 : decode cJ3_checkIndex_8e157 15 = .ok (.athrow, 1) := by decide +kernel
theorem dJ3_checkIndex_8e157_16 : decode cJ3_checkIndex_8e157 16 = .ok (.iload_n 0, 1) := by decide +kernel
theorem dJ3_checkIndex_8e157_17 : decode cJ3_checkIndex_8e157 17 = .ok (.ireturn, 1) := by decide +kernel
