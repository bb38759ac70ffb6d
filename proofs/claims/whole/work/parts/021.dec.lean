theorem dX0_init_0 : decode cX0_init 0 = .ok (.aload_n 0, 1) := by decide +kernel
theorem dX0_init_1 : decode cX0_init 1 = .ok (.invokespecial 1, 3) := by decide +kernel
theorem dX0_init_4 : decode cX0_init 4 = .ok (.aload_n 0, 1) := by decide +kernel
theorem dX0_init_5 : decode cX0_init 5 = .ok (.lconst 0, 1) := by decide +kernel
theorem dX0_init_6 : decode cX0_init 6 = .ok (.putfield 7, 3) := by decide +kernel
theorem dX0_init_9 : decode cX0_init 9 = .ok (.return_, 1) := by decide +kernel
theorem dX0_startAt_0 : decode cX0_startAt 0 = .ok (.aload_n 0, 1) := by decide +kernel
theorem dX0_startAt_1 : decode cX0_startAt 1 = .ok (.iload_n 1, 1) := by decide +kernel
theorem dX0_startAt_2 : decode cX0_startAt 2 = .ok (.i2l, 1) := by decide +kernel
theorem dX0_startAt_3 : decode cX0_startAt 3 = .ok (.putfield 7, 3) := by decide +kernel
theorem dX0_startAt_6 : decode cX0_startAt 6 = .ok (.return_, 1) := by decide +kernel
theorem dX0_seedNow_0 : decode cX0_seedNow 0 = .ok (.aload_n 0, 1) := by decide +kernel
theorem dX0_seedNow_1 : decode cX0_seedNow 1 = .ok (.getfield 7, 3) := by decide +kernel
theorem dX0_seedNow_4 : decode cX0_seedNow 4 = .ok (.l2i, 1) := by decide +kernel
theorem dX0_seedNow_5 : decode cX0_seedNow 5 = .ok (.ireturn, 1) := by decide +kernel
theorem dX0_below_0 : decode cX0_below 0 = .ok (.aload_n 0, 1) := by decide +kernel
theorem dX0_below_1 : decode cX0_below 1 = .ok (.ldc2_w 13, 3) := by decide +kernel
theorem dX0_below_4 : decode cX0_below 4 = .ok (.aload_n 0, 1) := by decide +kernel
theorem dX0_below_5 : decode cX0_below 5 = .ok (.getfield 7, 3) := by decide +kernel
theorem dX0_below_8 : decode cX0_below 8 = .ok (.lmul, 1) := by decide +kernel
theorem dX0_below_9 : decode cX0_below 9 = .ok (.ldc2_w 15, 3) := by decide +kernel
theorem dX0_below_12 : decode cX0_below 12 = .ok (.ladd, 1) := by decide +kernel
theorem dX0_below_13 : decode cX0_below 13 = .ok (.ldc2_w 17, 3) := by decide +kernel
theorem dX0_below_16 : decode cX0_below 16 = .ok (.land, 1) := by decide +kernel
theorem dX0_below_17 : decode cX0_below 17 = .ok (.putfield 7, 3) := by decide +kernel
theorem dX0_below_20 : decode cX0_below 20 = .ok (.iload_n 1, 1) := by decide +kernel
theorem dX0_below_21 : decode cX0_below 21 = .ok (.ifCond .le 18, 3) := by decide +kernel
theorem dX0_below_24 : decode cX0_below 24 = .ok (.aload_n 0, 1) := by decide +kernel
theorem dX0_below_25 : decode cX0_below 25 = .ok (.getfield 7, 3) := by decide +kernel
theorem dX0_below_28 : decode cX0_below 28 = .ok (.ldc2_w 19, 3) := by decide +kernel
theorem dX0_below_31 : decode cX0_below 31 = .ok (.ldiv, 1) := by decide +kernel
theorem dX0_below_32 : decode cX0_below 32 = .ok (.iload_n 1, 1) := by decide +kernel
theorem dX0_below_33 : decode cX0_below 33 = .ok (.i2l, 1) := by decide +kernel
theorem dX0_below_34 : decode cX0_below 34 = .ok (.lrem, 1) := by decide +kernel
theorem dX0_below_35 : decode cX0_below 35 = .ok (.l2i, 1) := by decide +kernel
theorem dX0_below_36 : decode cX0_below 36 = .ok (.goto 4, 3) := by decide +kernel
theorem dX0_below_39 : decode cX0_below 39 = .ok (.iconst 0, 1) := by decide +kernel
theorem dX0_below_40 : decode cX0_below 40 = .ok (.ireturn, 1) := by decide +kernel
theorem dX1_init_0 : decode cX1_init 0 = .ok (.aload_n 0, 1) := by decide +kernel
theorem dX1_init_1 : decode cX1_init 1 = .ok (.invokespecial 3, 3) := by decide +kernel
theorem dX1_init_4 : decode cX1_init 4 = .ok (.aload_n 0, 1) := by decide +kernel
theorem dX1_init_5 : decode cX1_init 5 = .ok (.iload_n 1, 1) := by decide +kernel
theorem dX1_init_6 : decode cX1_init 6 = .ok (.iconst 0, 1) := by decide +kernel
theorem dX1_init_7 : decode cX1_init 7 = .ok (.invokestatic 9, 3) := by decide +kernel
theorem dX1_init_10 : decode cX1_init 10 = .ok (.newarray .int, 2) := by decide +kernel
theorem dX1_init_12 : decode cX1_init 12 = .ok (.putfield 15, 3) := by decide +kernel
theorem dX1_init_15 : decode cX1_init 15 = .ok (.aload_n 0, 1) := by decide +kernel
theorem dX1_init_16 : decode cX1_init 16 = .ok (.iconst 0, 1) := by decide +kernel
theorem dX1_init_17 : decode cX1_init 17 = .ok (.putfield 21, 3) := by decide +kernel
theorem dX1_init_20 : decode cX1_init 20 = .ok (.return_, 1) := by decide +kernel
theorem dX1_size_0 : decode cX1_size 0 = .ok (.aload_n 0, 1) := by decide +kernel
theorem dX1_size_1 : decode cX1_size 1 = .ok (.getfield 21, 3) := by decide +kernel
theorem dX1_size_4 : decode cX1_size 4 = .ok (.ireturn, 1) := by decide +kernel
theorem dX1_at_0 : decode cX1_at 0 = .ok (.iload_n 1, 1) := by decide +kernel
theorem dX1_at_1 : decode cX1_at 1 = .ok (.ifCond .lt 29, 3) := by decide +kernel
theorem dX1_at_4 : decode cX1_at 4 = .ok (.iload_n 1, 1) := by decide +kernel
theorem dX1_at_5 : decode cX1_at 5 = .ok (.aload_n 0, 1) := by decide +kernel
theorem dX1_at_6 : decode cX1_at 6 = .ok (.getfield 21, 3) := by decide +kernel
theorem dX1_at_9 : decode cX1_at 9 = .ok (.if_icmp .ge 21, 3) := by decide +kernel
theorem dX1_at_12 : decode cX1_at 12 = .ok (.iload_n 1, 1) := by decide +kernel
theorem dX1_at_13 : decode cX1_at 13 = .ok (.aload_n 0, 1) := by decide +kernel
theorem dX1_at_14 : decode cX1_at 14 = .ok (.getfield 15, 3) := by decide +kernel
theorem dX1_at_17 : decode cX1_at 17 = .ok (.arraylength, 1) := by decide +kernel
theorem dX1_at_18 : decode cX1_at 18 = .ok (.if_icmp .ge 12, 3) := by decide +kernel
theorem dX1_at_21 : decode cX1_at 21 = .ok (.aload_n 0, 1) := by decide +kernel
theorem dX1_at_22 : decode cX1_at 22 = .ok (.getfield 15, 3) := by decide +kernel
theorem dX1_at_25 : decode cX1_at 25 = .ok (.iload_n 1, 1) := by decide +kernel
theorem dX1_at_26 : decode cX1_at 26 = .ok (.iaload, 1) := by decide +kernel
theorem dX1_at_27 : decode cX1_at 27 = .ok (.goto 4, 3) := by decide +kernel
theorem dX1_at_30 : decode cX1_at 30 = .ok (.iconst (-1), 1) := by decide +kernel
theorem dX1_at_31 : decode cX1_at 31 = .ok (.ireturn, 1) := by decide +kernel
theorem dX1_clear_0 : decode cX1_clear 0 = .ok (.aload_n 0, 1) := by decide +kernel
theorem dX1_clear_1 : decode cX1_clear 1 = .ok (.iconst 0, 1) := by decide +kernel
theorem dX1_clear_2 : decode cX1_clear 2 = .ok (.putfield 21, 3) := by decide +kernel
theorem dX1_clear_5 : decode cX1_clear 5 = .ok (.return_, 1) := by decide +kernel
theorem dX1_addAsIs_0 : decode cX1_addAsIs 0 = .ok (.aload_n 0, 1) := by decide +kernel
theorem dX1_addAsIs_1 : decode cX1_addAsIs 1 = .ok (.getfield 21, 3) := by decide +kernel
theorem dX1_addAsIs_4 : decode cX1_addAsIs 4 = .ok (.ifCond .lt 35, 3) := by decide +kernel
theorem dX1_addAsIs_7 : decode cX1_addAsIs 7 = .ok (.aload_n 0, 1) := by decide +kernel
theorem dX1_addAsIs_8 : decode cX1_addAsIs 8 = .ok (.getfield 21, 3) := by decide +kernel
theorem dX1_addAsIs_11 : decode cX1_addAsIs 11 = .ok (.aload_n 0, 1) := by decide +kernel
theorem dX1_addAsIs_12 : decode cX1_addAsIs 12 = .ok (.getfield 15, 3) := by decide +kernel
theorem dX1_addAsIs_15 : decode cX1_addAsIs 15 = .ok (.arraylength, 1) := by decide +kernel
theorem dX1_addAsIs_16 : decode cX1_addAsIs 16 = .ok (.if_icmp .ge 23, 3) := by decide +kernel
theorem dX1_addAsIs_19 : decode cX1_addAsIs 19 = .ok (.aload_n 0, 1) := by decide +kernel
theorem dX1_addAsIs_20 : decode cX1_addAsIs 20 = .ok (.getfield 15, 3) := by decide +kernel
theorem dX1_addAsIs_23 : decode cX1_addAsIs 23 = .ok (.aload_n 0, 1) := by decide +kernel
theorem dX1_addAsIs_24 : decode cX1_addAsIs 24 = .ok (.getfield 21, 3) := by decide +kernel
theorem dX1_addAsIs_27 : decode cX1_addAsIs 27 = .ok (.iload_n 1, 1) := by decide +kernel
theorem dX1_addAsIs_28 : decode cX1_addAsIs 28 = .ok (.iastore, 1) := by decide +kernel
theorem dX1_addAsIs_29 : decode cX1_addAsIs 29 = .ok (.aload_n 0, 1) := by decide +kernel
theorem dX1_addAsIs_30 : decode cX1_addAsIs 30 = .ok (.dup, 1) := by decide +kernel
theorem dX1_addAsIs_31 : decode cX1_addAsIs 31 = .ok (.getfield 21, 3) := by decide +kernel
theorem dX1_addAsIs_34 : decode cX1_addAsIs 34 = .ok (.iconst 1, 1) := by decide +kernel
theorem dX1_addAsIs_35 : decode cX1_addAsIs 35 = .ok (.iadd, 1) := by decide +kernel
theorem dX1_addAsIs_36 : decode cX1_addAsIs 36 = .ok (.putfield 21, 3) := by decide +kernel
theorem dX1_addAsIs_39 : decode cX1_addAsIs 39 = .ok (.return_, 1) := by decide +kernel
theorem dX1_addReduced_0 : decode cX1_addReduced 0 = .ok (.aload_n 0, 1) := by decide +kernel
theorem dX1_addReduced_1 : decode cX1_addReduced 1 = .ok (.getfield 21, 3) := by decide +kernel
theorem dX1_addReduced_4 : decode cX1_addReduced 4 = .ok (.ifCond .le 33, 3) := by decide +kernel
theorem dX1_addReduced_7 : decode cX1_addReduced 7 = .ok (.aload_n 0, 1) := by decide +kernel
theorem dX1_addReduced_8 : decode cX1_addReduced 8 = .ok (.aload_n 0, 1) := by decide +kernel
theorem dX1_addReduced_9 : decode cX1_addReduced 9 = .ok (.getfield 21, 3) := by decide +kernel
theorem dX1_addReduced_12 : decode cX1_addReduced 12 = .ok (.iconst 1, 1) := by decide +kernel
theorem dX1_addReduced_13 : decode cX1_addReduced 13 = .ok (.isub, 1) := by decide +kernel
theorem dX1_addReduced_14 : decode cX1_addReduced 14 = .ok (.invokevirtual 25, 3) := by decide +kernel
theorem dX1_addReduced_17 : decode cX1_addReduced 17 = .ok (.iload_n 1, 1) := by decide +kernel
theorem dX1_addReduced_18 : decode cX1_addReduced 18 = .ok (.invokestatic 29, 3) := by decide +kernel
theorem dX1_addReduced_21 : decode cX1_addReduced 21 = .ok (.if_icmp .ne 16, 3) := by decide +kernel
theorem dX1_addReduced_24 : decode cX1_addReduced 24 = .ok (.aload_n 0, 1) := by decide +kernel
theorem dX1_addReduced_25 : decode cX1_addReduced 25 = .ok (.dup, 1) := by decide +kernel
theorem dX1_addReduced_26 : decode cX1_addReduced 26 = .ok (.getfield 21, 3) := by decide +kernel
theorem dX1_addReduced_29 : decode cX1_addReduced 29 = .ok (.iconst 1, 1) := by decide +kernel
theorem dX1_addReduced_30 : decode cX1_addReduced 30 = .ok (.isub, 1) := by decide +kernel
theorem dX1_addReduced_31 : decode cX1_addReduced 31 = .ok (.putfield 21, 3) := by decide +kernel
theorem dX1_addReduced_34 : decode cX1_addReduced 34 = .ok (.goto 8, 3) := by decide +kernel
theorem dX1_addReduced_37 : decode cX1_addReduced 37 = .ok (.aload_n 0, 1) := by decide +kernel
theorem dX1_addReduced_38 : decode cX1_addReduced 38 = .ok (.iload_n 1, 1) := by decide +kernel
theorem dX1_addReduced_39 : decode cX1_addReduced 39 = .ok (.invokevirtual 32, 3) := by decide +kernel
theorem dX1_addReduced_42 : decode cX1_addReduced 42 = .ok (.return_, 1) := by decide +kernel
theorem dX1_addAll_0 : decode cX1_addAll 0 = .ok (.iconst 0, 1) := by decide +kernel
theorem dX1_addAll_1 : decode cX1_addAll 1 = .ok (.istore_n 2, 1) := by decide +kernel
theorem dX1_addAll_2 : decode cX1_addAll 2 = .ok (.iload_n 2, 1) := by decide +kernel
theorem dX1_addAll_3 : decode cX1_addAll 3 = .ok (.aload_n 1, 1) := by decide +kernel
theorem dX1_addAll_4 : decode cX1_addAll 4 = .ok (.getfield 21, 3) := by decide +kernel
theorem dX1_addAll_7 : decode cX1_addAll 7 = .ok (.if_icmp .ge 18, 3) := by decide +kernel
theorem dX1_addAll_10 : decode cX1_addAll 10 = .ok (.aload_n 0, 1) := by decide +kernel
theorem dX1_addAll_11 : decode cX1_addAll 11 = .ok (.aload_n 1, 1) := by decide +kernel
theorem dX1_addAll_12 : decode cX1_addAll 12 = .ok (.iload_n 2, 1) := by decide +kernel
theorem dX1_addAll_13 : decode cX1_addAll 13 = .ok (.invokevirtual 25, 3) := by decide +kernel
theorem dX1_addAll_16 : decode cX1_addAll 16 = .ok (.invokevirtual 36, 3) := by decide +kernel
theorem dX1_addAll_19 : decode cX1_addAll 19 = .ok (.iinc 2 1, 3) := by decide +kernel
theorem dX1_addAll_22 : decode cX1_addAll 22 = .ok (.goto (-20), 3) := by decide +kernel
theorem dX1_addAll_25 : decode cX1_addAll 25 = .ok (.return_, 1) := by decide +kernel
theorem dX1_addUndone_0 : decode cX1_addUndone 0 = .ok (.aload_n 1, 1) := by decide +kernel
theorem dX1_addUndone_1 : decode cX1_addUndone 1 = .ok (.getfield 21, 3) := by decide +kernel
theorem dX1_addUndone_4 : decode cX1_addUndone 4 = .ok (.iconst 1, 1) := by decide +kernel
theorem dX1_addUndone_5 : decode cX1_addUndone 5 = .ok (.isub, 1) := by decide +kernel
theorem dX1_addUndone_6 : decode cX1_addUndone 6 = .ok (.istore_n 2, 1) := by decide +kernel
theorem dX1_addUndone_7 : decode cX1_addUndone 7 = .ok (.iload_n 2, 1) := by decide +kernel
theorem dX1_addUndone_8 : decode cX1_addUndone 8 = .ok (.ifCond .lt 21, 3) := by decide +kernel
theorem dX1_addUndone_11 : decode cX1_addUndone 11 = .ok (.aload_n 0, 1) := by decide +kernel
theorem dX1_addUndone_12 : decode cX1_addUndone 12 = .ok (.aload_n 1, 1) := by decide +kernel
theorem dX1_addUndone_13 : decode cX1_addUndone 13 = .ok (.iload_n 2, 1) := by decide +kernel
theorem dX1_addUndone_14 : decode cX1_addUndone 14 = .ok (.invokevirtual 25, 3) := by decide +kernel
theorem dX1_addUndone_17 : decode cX1_addUndone 17 = .ok (.invokestatic 29, 3) := by decide +kernel
theorem dX1_addUndone_20 : decode cX1_addUndone 20 = .ok (.invokevirtual 36, 3) := by decide +kernel
theorem dX1_addUndone_23 : decode cX1_addUndone 23 = .ok (.iinc 2 (-1), 3) := by decide +kernel
theorem dX1_addUndone_26 : decode cX1_addUndone 26 = .ok (.goto (-19), 3) := by decide +kernel
theorem dX1_addUndone_29 : decode cX1_addUndone 29 = .ok (.return_, 1) := by decide +kernel
theorem dX1_copyFrom_0 : decode cX1_copyFrom 0 = .ok (.aload_n 0, 1) := by decide +kernel
theorem dX1_copyFrom_1 : decode cX1_copyFrom 1 = .ok (.iconst 0, 1) := by decide +kernel
theorem dX1_copyFrom_2 : decode cX1_copyFrom 2 = .ok (.putfield 21, 3) := by decide +kernel
theorem dX1_copyFrom_5 : decode cX1_copyFrom 5 = .ok (.iconst 0, 1) := by decide +kernel
theorem dX1_copyFrom_6 : decode cX1_copyFrom 6 = .ok (.istore_n 2, 1) := by decide +kernel
theorem dX1_copyFrom_7 : decode cX1_copyFrom 7 = .ok (.iload_n 2, 1) := by decide +kernel
theorem dX1_copyFrom_8 : decode cX1_copyFrom 8 = .ok (.aload_n 1, 1) := by decide +kernel
theorem dX1_copyFrom_9 : decode cX1_copyFrom 9 = .ok (.getfield 21, 3) := by decide +kernel
theorem dX1_copyFrom_12 : decode cX1_copyFrom 12 = .ok (.if_icmp .ge 18, 3) := by decide +kernel
theorem dX1_copyFrom_15 : decode cX1_copyFrom 15 = .ok (.aload_n 0, 1) := by decide +kernel
theorem dX1_copyFrom_16 : decode cX1_copyFrom 16 = .ok (.aload_n 1, 1) := by decide +kernel
theorem dX1_copyFrom_17 : decode cX1_copyFrom 17 = .ok (.iload_n 2, 1) := by decide +kernel
theorem dX1_copyFrom_18 : decode cX1_copyFrom 18 = .ok (.invokevirtual 25, 3) := by decide +kernel
theorem dX1_copyFrom_21 : decode cX1_copyFrom 21 = .ok (.invokevirtual 32, 3) := by decide +kernel
theorem dX1_copyFrom_24 : decode cX1_copyFrom 24 = .ok (.iinc 2 1, 3) := by decide +kernel
theorem dX1_copyFrom_27 : decode cX1_copyFrom 27 = .ok (.goto (-20), 3) := by decide +kernel
theorem dX1_copyFrom_30 : decode cX1_copyFrom 30 = .ok (.return_, 1) := by decide +kernel
theorem dX2_init_0 : decode cX2_init 0 = .ok (.aload_n 0, 1) := by decide +kernel
theorem dX2_init_1 : decode cX2_init 1 = .ok (.invokespecial 3, 3) := by decide +kernel
theorem dX2_init_4 : decode cX2_init 4 = .ok (.aload_n 0, 1) := by decide +kernel
theorem dX2_init_5 : decode cX2_init 5 = .ok (.bipush 24, 2) := by decide +kernel
theorem dX2_init_7 : decode cX2_init 7 = .ok (.newarray .int, 2) := by decide +kernel
theorem dX2_init_9 : decode cX2_init 9 = .ok (.putfield 9, 3) := by decide +kernel
theorem dX2_init_12 : decode cX2_init 12 = .ok (.aload_n 0, 1) := by decide +kernel
theorem dX2_init_13 : decode cX2_init 13 = .ok (.iconst 0, 1) := by decide +kernel
theorem dX2_init_14 : decode cX2_init 14 = .ok (.putfield 15, 3) := by decide +kernel
theorem dX2_init_17 : decode cX2_init 17 = .ok (.return_, 1) := by decide +kernel
theorem dX2_size_0 : decode cX2_size 0 = .ok (.aload_n 0, 1) := by decide +kernel
theorem dX2_size_1 : decode cX2_size 1 = .ok (.getfield 15, 3) := by decide +kernel
theorem dX2_size_4 : decode cX2_size 4 = .ok (.ireturn, 1) := by decide +kernel
theorem dX2_codeAt_0 : decode cX2_codeAt 0 = .ok (.iload_n 1, 1) := by decide +kernel
theorem dX2_codeAt_1 : decode cX2_codeAt 1 = .ok (.ifCond .lt 29, 3) := by decide +kernel
theorem dX2_codeAt_4 : decode cX2_codeAt 4 = .ok (.iload_n 1, 1) := by decide +kernel
theorem dX2_codeAt_5 : decode cX2_codeAt 5 = .ok (.aload_n 0, 1) := by decide +kernel
theorem dX2_codeAt_6 : decode cX2_codeAt 6 = .ok (.getfield 15, 3) := by decide +kernel
theorem dX2_codeAt_9 : decode cX2_codeAt 9 = .ok (.if_icmp .ge 21, 3) := by decide +kernel
theorem dX2_codeAt_12 : decode cX2_codeAt 12 = .ok (.iload_n 1, 1) := by decide +kernel
theorem dX2_codeAt_13 : decode cX2_codeAt 13 = .ok (.aload_n 0, 1) := by decide +kernel
theorem dX2_codeAt_14 : decode cX2_codeAt 14 = .ok (.getfield 9, 3) := by decide +kernel
theorem dX2_codeAt_17 : decode cX2_codeAt 17 = .ok (.arraylength, 1) := by decide +kernel
theorem dX2_codeAt_18 : decode cX2_codeAt 18 = .ok (.if_icmp .ge 12, 3) := by decide +kernel
theorem dX2_codeAt_21 : decode cX2_codeAt 21 = .ok (.aload_n 0, 1) := by decide +kernel
theorem dX2_codeAt_22 : decode cX2_codeAt 22 = .ok (.getfield 9, 3) := by decide +kernel
theorem dX2_codeAt_25 : decode cX2_codeAt 25 = .ok (.iload_n 1, 1) := by decide +kernel
theorem dX2_codeAt_26 : decode cX2_codeAt 26 = .ok (.iaload, 1) := by decide +kernel
theorem dX2_codeAt_27 : decode cX2_codeAt 27 = .ok (.goto 4, 3) := by decide +kernel
theorem dX2_codeAt_30 : decode cX2_codeAt 30 = .ok (.iconst (-1), 1) := by decide +kernel
theorem dX2_codeAt_31 : decode cX2_codeAt 31 = .ok (.ireturn, 1) := by decide +kernel
theorem dX2_put_0 : decode cX2_put 0 = .ok (.aload_n 0, 1) := by decide +kernel
theorem dX2_put_1 : decode cX2_put 1 = .ok (.getfield 15, 3) := by decide +kernel
theorem dX2_put_4 : decode cX2_put 4 = .ok (.ifCond .lt 15, 3) := by decide +kernel
theorem dX2_put_7 : decode cX2_put 7 = .ok (.aload_n 0, 1) := by decide +kernel
theorem dX2_put_8 : decode cX2_put 8 = .ok (.getfield 15, 3) := by decide +kernel
theorem dX2_put_11 : decode cX2_put 11 = .ok (.aload_n 0, 1) := by decide +kernel
theorem dX2_put_12 : decode cX2_put 12 = .ok (.getfield 9, 3) := by decide +kernel
theorem dX2_put_15 : decode cX2_put 15 = .ok (.arraylength, 1) := by decide +kernel
theorem dX2_put_16 : decode cX2_put 16 = .ok (.if_icmp .lt 5, 3) := by decide +kernel
theorem dX2_put_19 : decode cX2_put 19 = .ok (.iconst 0, 1) := by decide +kernel
theorem dX2_put_20 : decode cX2_put 20 = .ok (.ireturn, 1) := by decide +kernel
theorem dX2_put_21 : decode cX2_put 21 = .ok (.aload_n 0, 1) := by decide +kernel
theorem dX2_put_22 : decode cX2_put 22 = .ok (.getfield 9, 3) := by decide +kernel
theorem dX2_put_25 : decode cX2_put 25 = .ok (.aload_n 0, 1) := by decide +kernel
theorem dX2_put_26 : decode cX2_put 26 = .ok (.getfield 15, 3) := by decide +kernel
theorem dX2_put_29 : decode cX2_put 29 = .ok (.iload_n 1, 1) := by decide +kernel
theorem dX2_put_30 : decode cX2_put 30 = .ok (.iastore, 1) := by decide +kernel
theorem dX2_put_31 : decode cX2_put 31 = .ok (.aload_n 0, 1) := by decide +kernel
theorem dX2_put_32 : decode cX2_put 32 = .ok (.dup, 1) := by decide +kernel
theorem dX2_put_33 : decode cX2_put 33 = .ok (.getfield 15, 3) := by decide +kernel
theorem dX2_put_36 : decode cX2_put 36 = .ok (.iconst 1, 1) := by decide +kernel
theorem dX2_put_37 : decode cX2_put 37 = .ok (.iadd, 1) := by decide +kernel
theorem dX2_put_38 : decode cX2_put 38 = .ok (.putfield 15, 3) := by decide +kernel
theorem dX2_put_41 : decode cX2_put 41 = .ok (.iconst 1, 1) := by decide +kernel
theorem dX2_put_42 : decode cX2_put 42 = .ok (.ireturn, 1) := by decide +kernel
theorem dX2_clear_0 : decode cX2_clear 0 = .ok (.aload_n 0, 1) := by decide +kernel
theorem dX2_clear_1 : decode cX2_clear 1 = .ok (.iconst 0, 1) := by decide +kernel
theorem dX2_clear_2 : decode cX2_clear 2 = .ok (.putfield 15, 3) := by decide +kernel
theorem dX2_clear_5 : decode cX2_clear 5 = .ok (.return_, 1) := by decide +kernel
theorem dX2_firstFault_0 : decode cX2_firstFault 0 = .ok (.iconst 0, 1) := by decide +kernel
theorem dX2_firstFault_1 : decode cX2_firstFault 1 = .ok (.istore_n 1, 1) := by decide +kernel
theorem dX2_firstFault_2 : decode cX2_firstFault 2 = .ok (.iload_n 1, 1) := by decide +kernel
theorem dX2_firstFault_3 : decode cX2_firstFault 3 = .ok (.aload_n 0, 1) := by decide +kernel
theorem dX2_firstFault_4 : decode cX2_firstFault 4 = .ok (.getfield 15, 3) := by decide +kernel
theorem dX2_firstFault_7 : decode cX2_firstFault 7 = .ok (.if_icmp .ge 23, 3) := by decide +kernel
theorem dX2_firstFault_10 : decode cX2_firstFault 10 = .ok (.iload_n 1, 1) := by decide +kernel
theorem dX2_firstFault_11 : decode cX2_firstFault 11 = .ok (.aload_n 0, 1) := by decide +kernel
theorem dX2_firstFault_12 : decode cX2_firstFault 12 = .ok (.iload_n 1, 1) := by decide +kernel
theorem dX2_firstFault_13 : decode cX2_firstFault 13 = .ok (.invokevirtual 19, 3) := by decide +kernel
theorem dX2_firstFault_16 : decode cX2_firstFault 16 = .ok (.invokestatic 23, 3) := by decide +kernel
theorem dX2_firstFault_19 : decode cX2_firstFault 19 = .ok (.ifCond .ne 5, 3) := by decide +kernel
theorem dX2_firstFault_22 : decode cX2_firstFault 22 = .ok (.iload_n 1, 1) := by decide +kernel
theorem dX2_firstFault_23 : decode cX2_firstFault 23 = .ok (.ireturn, 1) := by decide +kernel
theorem dX2_firstFault_24 : decode cX2_firstFault 24 = .ok (.iinc 1 1, 3) := by decide +kernel
theorem dX2_firstFault_27 : decode cX2_firstFault 27 = .ok (.goto (-25), 3) := by decide +kernel
theorem dX2_firstFault_30 : decode cX2_firstFault 30 = .ok (.aload_n 0, 1) := by decide +kernel
theorem dX2_firstFault_31 : decode cX2_firstFault 31 = .ok (.getfield 15, 3) := by decide +kernel
theorem dX2_firstFault_34 : decode cX2_firstFault 34 = .ok (.ireturn, 1) := by decide +kernel
theorem dX2_isMachine_0 : decode cX2_isMachine 0 = .ok (.aload_n 0, 1) := by decide +kernel
theorem dX2_isMachine_1 : decode cX2_isMachine 1 = .ok (.getfield 15, 3) := by decide +kernel
theorem dX2_isMachine_4 : decode cX2_isMachine 4 = .ok (.iconst 4, 1) := by decide +kernel
theorem dX2_isMachine_5 : decode cX2_isMachine 5 = .ok (.irem, 1) := by decide +kernel
theorem dX2_isMachine_6 : decode cX2_isMachine 6 = .ok (.iconst 3, 1) := by decide +kernel
theorem dX2_isMachine_7 : decode cX2_isMachine 7 = .ok (.if_icmp .ne 14, 3) := by decide +kernel
theorem dX2_isMachine_10 : decode cX2_isMachine 10 = .ok (.aload_n 0, 1) := by decide +kernel
theorem dX2_isMachine_11 : decode cX2_isMachine 11 = .ok (.invokevirtual 27, 3) := by decide +kernel
theorem dX2_isMachine_14 : decode cX2_isMachine 14 = .ok (.aload_n 0, 1) := by decide +kernel
theorem dX2_isMachine_15 : decode cX2_isMachine 15 = .ok (.getfield 15, 3) := by decide +kernel
theorem dX2_isMachine_18 : decode cX2_isMachine 18 = .ok (.if_icmp .ge 5, 3) := by decide +kernel
theorem dX2_isMachine_21 : decode cX2_isMachine 21 = .ok (.iconst 0, 1) := by decide +kernel
theorem dX2_isMachine_22 : decode cX2_isMachine 22 = .ok (.ireturn, 1) := by decide +kernel
theorem dX2_isMachine_23 : decode cX2_isMachine 23 = .ok (.aload_n 0, 1) := by decide +kernel
theorem dX2_isMachine_24 : decode cX2_isMachine 24 = .ok (.invokevirtual 31, 3) := by decide +kernel
theorem dX2_isMachine_27 : decode cX2_isMachine 27 = .ok (.istore_n 1, 1) := by decide +kernel
theorem dX2_isMachine_28 : decode cX2_isMachine 28 = .ok (.iconst 0, 1) := by decide +kernel
theorem dX2_isMachine_29 : decode cX2_isMachine 29 = .ok (.istore_n 2, 1) := by decide +kernel
theorem dX2_isMachine_30 : decode cX2_isMachine 30 = .ok (.iload_n 2, 1) := by decide +kernel
theorem dX2_isMachine_31 : decode cX2_isMachine 31 = .ok (.iload_n 1, 1) := by decide +kernel
theorem dX2_isMachine_32 : decode cX2_isMachine 32 = .ok (.if_icmp .ge 31, 3) := by decide +kernel
theorem dX2_isMachine_35 : decode cX2_isMachine 35 = .ok (.aload_n 0, 1) := by decide +kernel
theorem dX2_isMachine_36 : decode cX2_isMachine 36 = .ok (.iload_n 2, 1) := by decide +kernel
theorem dX2_isMachine_37 : decode cX2_isMachine 37 = .ok (.iconst 0, 1) := by decide +kernel
theorem dX2_isMachine_38 : decode cX2_isMachine 38 = .ok (.invokevirtual 34, 3) := by decide +kernel
theorem dX2_isMachine_41 : decode cX2_isMachine 41 = .ok (.iload_n 1, 1) := by decide +kernel
theorem dX2_isMachine_42 : decode cX2_isMachine 42 = .ok (.if_icmp .ge 13, 3) := by decide +kernel
theorem dX2_isMachine_45 : decode cX2_isMachine 45 = .ok (.aload_n 0, 1) := by decide +kernel
theorem dX2_isMachine_46 : decode cX2_isMachine 46 = .ok (.iload_n 2, 1) := by decide +kernel
theorem dX2_isMachine_47 : decode cX2_isMachine 47 = .ok (.iconst 1, 1) := by decide +kernel
theorem dX2_isMachine_48 : decode cX2_isMachine 48 = .ok (.invokevirtual 34, 3) := by decide +kernel
theorem dX2_isMachine_51 : decode cX2_isMachine 51 = .ok (.iload_n 1, 1) := by decide +kernel
theorem dX2_isMachine_52 : decode cX2_isMachine 52 = .ok (.if_icmp .lt 5, 3) := by decide +kernel
theorem dX2_isMachine_55 : decode cX2_isMachine 55 = .ok (.iconst 0, 1) := by decide +kernel
theorem dX2_isMachine_56 : decode cX2_isMachine 56 = .ok (.ireturn, 1) := by decide +kernel
theorem dX2_isMachine_57 : decode cX2_isMachine 57 = .ok (.iinc 2 1, 3) := by decide +kernel
theorem dX2_isMachine_60 : decode cX2_isMachine 60 = .ok (.goto (-30), 3) := by decide +kernel
theorem dX2_isMachine_63 : decode cX2_isMachine 63 = .ok (.iconst 1, 1) := by decide +kernel
theorem dX2_isMachine_64 : decode cX2_isMachine 64 = .ok (.ireturn, 1) := by decide +kernel
theorem dX2_statesTold_0 : decode cX2_statesTold 0 = .ok (.aload_n 0, 1) := by decide +kernel
theorem dX2_statesTold_1 : decode cX2_statesTold 1 = .ok (.getfield 15, 3) := by decide +kernel
theorem dX2_statesTold_4 : decode cX2_statesTold 4 = .ok (.iconst 1, 1) := by decide +kernel
theorem dX2_statesTold_5 : decode cX2_statesTold 5 = .ok (.iadd, 1) := by decide +kernel
theorem dX2_statesTold_6 : decode cX2_statesTold 6 = .ok (.iconst 4, 1) := by decide +kernel
theorem dX2_statesTold_7 : decode cX2_statesTold 7 = .ok (.idiv, 1) := by decide +kernel
theorem dX2_statesTold_8 : decode cX2_statesTold 8 = .ok (.ireturn, 1) := by decide +kernel
theorem dX2_kindTold_0 : decode cX2_kindTold 0 = .ok (.aload_n 0, 1) := by decide +kernel
theorem dX2_kindTold_1 : decode cX2_kindTold 1 = .ok (.iconst 4, 1) := by decide +kernel
theorem dX2_kindTold_2 : decode cX2_kindTold 2 = .ok (.iload_n 1, 1) := by decide +kernel
theorem dX2_kindTold_3 : decode cX2_kindTold 3 = .ok (.imul, 1) := by decide +kernel
theorem dX2_kindTold_4 : decode cX2_kindTold 4 = .ok (.invokevirtual 19, 3) := by decide +kernel
theorem dX2_kindTold_7 : decode cX2_kindTold 7 = .ok (.invokestatic 38, 3) := by decide +kernel
theorem dX2_kindTold_10 : decode cX2_kindTold 10 = .ok (.ireturn, 1) := by decide +kernel
theorem dX2_nextTold_0 : decode cX2_nextTold 0 = .ok (.aload_n 0, 1) := by decide +kernel
theorem dX2_nextTold_1 : decode cX2_nextTold 1 = .ok (.iconst 4, 1) := by decide +kernel
theorem dX2_nextTold_2 : decode cX2_nextTold 2 = .ok (.iload_n 1, 1) := by decide +kernel
theorem dX2_nextTold_3 : decode cX2_nextTold 3 = .ok (.imul, 1) := by decide +kernel
theorem dX2_nextTold_4 : decode cX2_nextTold 4 = .ok (.iconst 1, 1) := by decide +kernel
theorem dX2_nextTold_5 : decode cX2_nextTold 5 = .ok (.iadd, 1) := by decide +kernel
theorem dX2_nextTold_6 : decode cX2_nextTold 6 = .ok (.iload_n 2, 1) := by decide +kernel
theorem dX2_nextTold_7 : decode cX2_nextTold 7 = .ok (.iadd, 1) := by decide +kernel
theorem dX2_nextTold_8 : decode cX2_nextTold 8 = .ok (.invokevirtual 19, 3) := by decide +kernel
theorem dX2_nextTold_11 : decode cX2_nextTold 11 = .ok (.istore_n 3, 1) := by decide +kernel
theorem dX2_nextTold_12 : decode cX2_nextTold 12 = .ok (.iload_n 3, 1) := by decide +kernel
theorem dX2_nextTold_13 : decode cX2_nextTold 13 = .ok (.invokestatic 41, 3) := by decide +kernel
theorem dX2_nextTold_16 : decode cX2_nextTold 16 = .ok (.ifCond .eq 10, 3) := by decide +kernel
theorem dX2_nextTold_19 : decode cX2_nextTold 19 = .ok (.iload_n 3, 1) := by decide +kernel
theorem dX2_nextTold_20 : decode cX2_nextTold 20 = .ok (.bipush 48, 2) := by decide +kernel
theorem dX2_nextTold_22 : decode cX2_nextTold 22 = .ok (.isub, 1) := by decide +kernel
theorem dX2_nextTold_23 : decode cX2_nextTold 23 = .ok (.goto 4, 3) := by decide +kernel
theorem dX2_nextTold_26 : decode cX2_nextTold 26 = .ok (.iconst (-1), 1) := by decide +kernel
theorem dX2_nextTold_27 : decode cX2_nextTold 27 = .ok (.ireturn, 1) := by decide +kernel
theorem dX2_fits_0 : decode cX2_fits 0 = .ok (.iload_n 0, 1) := by decide +kernel
theorem dX2_fits_1 : decode cX2_fits 1 = .ok (.bipush 23, 2) := by decide +kernel
theorem dX2_fits_3 : decode cX2_fits 3 = .ok (.if_icmp .lt 5, 3) := by decide +kernel
theorem dX2_fits_6 : decode cX2_fits 6 = .ok (.iconst 0, 1) := by decide +kernel
theorem dX2_fits_7 : decode cX2_fits 7 = .ok (.ireturn, 1) := by decide +kernel
theorem dX2_fits_8 : decode cX2_fits 8 = .ok (.iload_n 0, 1) := by decide +kernel
theorem dX2_fits_9 : decode cX2_fits 9 = .ok (.iconst 4, 1) := by decide +kernel
theorem dX2_fits_10 : decode cX2_fits 10 = .ok (.irem, 1) := by decide +kernel
theorem dX2_fits_11 : decode cX2_fits 11 = .ok (.lookupswitch 51 #[(0, 25), (3, 39)], 25) := by decide +kernel
theorem dX2_fits_36 : decode cX2_fits 36 = .ok (.iload_n 1, 1) := by decide +kernel
theorem dX2_fits_37 : decode cX2_fits 37 = .ok (.invokestatic 38, 3) := by decide +kernel
theorem dX2_fits_40 : decode cX2_fits 40 = .ok (.iconst (-1), 1) := by decide +kernel
theorem dX2_fits_41 : decode cX2_fits 41 = .ok (.if_icmp .eq 7, 3) := by decide +kernel
theorem dX2_fits_44 : decode cX2_fits 44 = .ok (.iconst 1, 1) := by decide +kernel
theorem dX2_fits_45 : decode cX2_fits 45 = .ok (.goto 4, 3) := by decide +kernel
theorem dX2_fits_48 : decode cX2_fits 48 = .ok (.iconst 0, 1) := by decide +kernel
theorem dX2_fits_49 : decode cX2_fits 49 = .ok (.ireturn, 1) := by decide +kernel
theorem dX2_fits_50 : decode cX2_fits 50 = .ok (.iload_n 1, 1) := by decide +kernel
theorem dX2_fits_51 : decode cX2_fits 51 = .ok (.bipush 44, 2) := by decide +kernel
theorem dX2_fits_53 : decode cX2_fits 53 = .ok (.if_icmp .ne 7, 3) := by decide +kernel
theorem dX2_fits_56 : decode cX2_fits 56 = .ok (.iconst 1, 1) := by decide +kernel
theorem dX2_fits_57 : decode cX2_fits 57 = .ok (.goto 4, 3) := by decide +kernel
theorem dX2_fits_60 : decode cX2_fits 60 = .ok (.iconst 0, 1) := by decide +kernel
theorem dX2_fits_61 : decode cX2_fits 61 = .ok (.ireturn, 1) := by decide +kernel
theorem dX2_fits_62 : decode cX2_fits 62 = .ok (.iload_n 1, 1) := by decide +kernel
theorem dX2_fits_63 : decode cX2_fits 63 = .ok (.bipush 45, 2) := by decide +kernel
theorem dX2_fits_65 : decode cX2_fits 65 = .ok (.if_icmp .eq 10, 3) := by decide +kernel
theorem dX2_fits_68 : decode cX2_fits 68 = .ok (.iload_n 1, 1) := by decide +kernel
theorem dX2_fits_69 : decode cX2_fits 69 = .ok (.invokestatic 41, 3) := by decide +kernel
theorem dX2_fits_72 : decode cX2_fits 72 = .ok (.ifCond .eq 7, 3) := by decide +kernel
theorem dX2_fits_75 : decode cX2_fits 75 = .ok (.iconst 1, 1) := by decide +kernel
theorem dX2_fits_76 : decode cX2_fits 76 = .ok (.goto 4, 3) := by decide +kernel
theorem dX2_fits_79 : decode cX2_fits 79 = .ok (.iconst 0, 1) := by decide +kernel
theorem dX2_fits_80 : decode cX2_fits 80 = .ok (.ireturn, 1) := by decide +kernel
theorem dX2_isDigit_0 : decode cX2_isDigit 0 = .ok (.iload_n 0, 1) := by decide +kernel
theorem dX2_isDigit_1 : decode cX2_isDigit 1 = .ok (.bipush 48, 2) := by decide +kernel
theorem dX2_isDigit_3 : decode cX2_isDigit 3 = .ok (.if_icmp .lt 13, 3) := by decide +kernel
theorem dX2_isDigit_6 : decode cX2_isDigit 6 = .ok (.iload_n 0, 1) := by decide +kernel
theorem dX2_isDigit_7 : decode cX2_isDigit 7 = .ok (.bipush 54, 2) := by decide +kernel
theorem dX2_isDigit_9 : decode cX2_isDigit 9 = .ok (.if_icmp .ge 7, 3) := by decide +kernel
theorem dX2_isDigit_12 : decode cX2_isDigit 12 = .ok (.iconst 1, 1) := by decide +kernel
theorem dX2_isDigit_13 : decode cX2_isDigit 13 = .ok (.goto 4, 3) := by decide +kernel
theorem dX2_isDigit_16 : decode cX2_isDigit 16 = .ok (.iconst 0, 1) := by decide +kernel
theorem dX2_isDigit_17 : decode cX2_isDigit 17 = .ok (.ireturn, 1) := by decide +kernel
theorem dX2_kindOfCode_0 : decode cX2_kindOfCode 0 = .ok (.iconst 0, 1) := by decide +kernel
theorem dX2_kindOfCode_1 : decode cX2_kindOfCode 1 = .ok (.istore_n 1, 1) := by decide +kernel
theorem dX2_kindOfCode_2 : decode cX2_kindOfCode 2 = .ok (.iload_n 1, 1) := by decide +kernel
theorem dX2_kindOfCode_3 : decode cX2_kindOfCode 3 = .ok (.ldc 45, 2) := by decide +kernel
theorem dX2_kindOfCode_5 : decode cX2_kindOfCode 5 = .ok (.invokevirtual 47, 3) := by decide +kernel
theorem dX2_kindOfCode_8 : decode cX2_kindOfCode 8 = .ok (.if_icmp .ge 21, 3) := by decide +kernel
theorem dX2_kindOfCode_11 : decode cX2_kindOfCode 11 = .ok (.ldc 45, 2) := by decide +kernel
theorem dX2_kindOfCode_13 : decode cX2_kindOfCode 13 = .ok (.iload_n 1, 1) := by decide +kernel
theorem dX2_kindOfCode_14 : decode cX2_kindOfCode 14 = .ok (.invokevirtual 52, 3) := by decide +kernel
theorem dX2_kindOfCode_17 : decode cX2_kindOfCode 17 = .ok (.iload_n 0, 1) := by decide +kernel
theorem dX2_kindOfCode_18 : decode cX2_kindOfCode 18 = .ok (.if_icmp .ne 5, 3) := by decide +kernel
theorem dX2_kindOfCode_21 : decode cX2_kindOfCode 21 = .ok (.iload_n 1, 1) := by decide +kernel
theorem dX2_kindOfCode_22 : decode cX2_kindOfCode 22 = .ok (.ireturn, 1) := by decide +kernel
theorem dX2_kindOfCode_23 : decode cX2_kindOfCode 23 = .ok (.iinc 1 1, 3) := by decide +kernel
theorem dX2_kindOfCode_26 : decode cX2_kindOfCode 26 = .ok (.goto (-24), 3) := by decide +kernel
theorem dX2_kindOfCode_29 : decode cX2_kindOfCode 29 = .ok (.iconst (-1), 1) := by decide +kernel
theorem dX2_kindOfCode_30 : decode cX2_kindOfCode 30 = .ok (.ireturn, 1) := by decide +kernel
theorem dX4_init_0 : decode cX4_init 0 = .ok (.aload_n 0, 1) := by decide +kernel
theorem dX4_init_1 : decode cX4_init 1 = .ok (.invokespecial 3, 3) := by decide +kernel
theorem dX4_init_4 : decode cX4_init 4 = .ok (.aload_n 0, 1) := by decide +kernel
theorem dX4_init_5 : decode cX4_init 5 = .ok (.sipush 328, 3) := by decide +kernel
theorem dX4_init_8 : decode cX4_init 8 = .ok (.newarray .long, 2) := by decide +kernel
theorem dX4_init_10 : decode cX4_init 10 = .ok (.putfield 9, 3) := by decide +kernel
theorem dX4_init_13 : decode cX4_init 13 = .ok (.aload_n 0, 1) := by decide +kernel
theorem dX4_init_14 : decode cX4_init 14 = .ok (.bipush 8, 2) := by decide +kernel
theorem dX4_init_16 : decode cX4_init 16 = .ok (.newarray .long, 2) := by decide +kernel
theorem dX4_init_18 : decode cX4_init 18 = .ok (.putfield 15, 3) := by decide +kernel
theorem dX4_init_21 : decode cX4_init 21 = .ok (.aload_n 0, 1) := by decide +kernel
theorem dX4_init_22 : decode cX4_init 22 = .ok (.new 18, 3) := by decide +kernel
theorem dX4_init_25 : decode cX4_init 25 = .ok (.dup, 1) := by decide +kernel
theorem dX4_init_26 : decode cX4_init 26 = .ok (.sipush 128, 3) := by decide +kernel
theorem dX4_init_29 : decode cX4_init 29 = .ok (.invokespecial 20, 3) := by decide +kernel
theorem dX4_init_32 : decode cX4_init 32 = .ok (.putfield 23, 3) := by decide +kernel
theorem dX4_init_35 : decode cX4_init 35 = .ok (.aload_n 0, 1) := by decide +kernel
theorem dX4_init_36 : decode cX4_init 36 = .ok (.new 18, 3) := by decide +kernel
theorem dX4_init_39 : decode cX4_init 39 = .ok (.dup, 1) := by decide +kernel
theorem dX4_init_40 : decode cX4_init 40 = .ok (.sipush 128, 3) := by decide +kernel
theorem dX4_init_43 : decode cX4_init 43 = .ok (.invokespecial 20, 3) := by decide +kernel
theorem dX4_init_46 : decode cX4_init 46 = .ok (.putfield 27, 3) := by decide +kernel
theorem dX4_init_49 : decode cX4_init 49 = .ok (.aload_n 0, 1) := by decide +kernel
theorem dX4_init_50 : decode cX4_init 50 = .ok (.iconst 0, 1) := by decide +kernel
theorem dX4_init_51 : decode cX4_init 51 = .ok (.putfield 30, 3) := by decide +kernel
theorem dX4_init_54 : decode cX4_init 54 = .ok (.return_, 1) := by decide +kernel
theorem dX4_tellNothing_0 : decode cX4_tellNothing 0 = .ok (.aload_n 0, 1) := by decide +kernel
theorem dX4_tellNothing_1 : decode cX4_tellNothing 1 = .ok (.iconst 0, 1) := by decide +kernel
theorem dX4_tellNothing_2 : decode cX4_tellNothing 2 = .ok (.putfield 30, 3) := by decide +kernel
theorem dX4_tellNothing_5 : decode cX4_tellNothing 5 = .ok (.aload_n 0, 1) := by decide +kernel
theorem dX4_tellNothing_6 : decode cX4_tellNothing 6 = .ok (.aload_n 2, 1) := by decide +kernel
theorem dX4_tellNothing_7 : decode cX4_tellNothing 7 = .ok (.invokevirtual 34, 3) := by decide +kernel
theorem dX4_tellNothing_10 : decode cX4_tellNothing 10 = .ok (.iconst 0, 1) := by decide +kernel
theorem dX4_tellNothing_11 : decode cX4_tellNothing 11 = .ok (.istore_n 3, 1) := by decide +kernel
theorem dX4_tellNothing_12 : decode cX4_tellNothing 12 = .ok (.iload_n 3, 1) := by decide +kernel
theorem dX4_tellNothing_13 : decode cX4_tellNothing 13 = .ok (.bipush 40, 2) := by decide +kernel
theorem dX4_tellNothing_15 : decode cX4_tellNothing 15 = .ok (.if_icmp .ge 72, 3) := by decide +kernel
theorem dX4_tellNothing_18 : decode cX4_tellNothing 18 = .ok (.iload_n 3, 1) := by decide +kernel
theorem dX4_tellNothing_19 : decode cX4_tellNothing 19 = .ok (.aload_n 0, 1) := by decide +kernel
theorem dX4_tellNothing_20 : decode cX4_tellNothing 20 = .ok (.getfield 30, 3) := by decide +kernel
theorem dX4_tellNothing_23 : decode cX4_tellNothing 23 = .ok (.if_icmp .ge 64, 3) := by decide +kernel
theorem dX4_tellNothing_26 : decode cX4_tellNothing 26 = .ok (.aload_n 0, 1) := by decide +kernel
theorem dX4_tellNothing_27 : decode cX4_tellNothing 27 = .ok (.iload_n 3, 1) := by decide +kernel
theorem dX4_tellNothing_28 : decode cX4_tellNothing 28 = .ok (.invokevirtual 38, 3) := by decide +kernel
theorem dX4_tellNothing_31 : decode cX4_tellNothing 31 = .ok (.aload_n 1, 1) := by decide +kernel
theorem dX4_tellNothing_32 : decode cX4_tellNothing 32 = .ok (.aload_n 0, 1) := by decide +kernel
theorem dX4_tellNothing_33 : decode cX4_tellNothing 33 = .ok (.getfield 23, 3) := by decide +kernel
theorem dX4_tellNothing_36 : decode cX4_tellNothing 36 = .ok (.invokevirtual 41, 3) := by decide +kernel
theorem dX4_tellNothing_39 : decode cX4_tellNothing 39 = .ok (.ifCond .eq 5, 3) := by decide +kernel
theorem dX4_tellNothing_42 : decode cX4_tellNothing 42 = .ok (.iconst 0, 1) := by decide +kernel
theorem dX4_tellNothing_43 : decode cX4_tellNothing 43 = .ok (.ireturn, 1) := by decide +kernel
theorem dX4_tellNothing_44 : decode cX4_tellNothing 44 = .ok (.iconst 0, 1) := by decide +kernel
theorem dX4_tellNothing_45 : decode cX4_tellNothing 45 = .ok (.istore 4, 2) := by decide +kernel
theorem dX4_tellNothing_47 : decode cX4_tellNothing 47 = .ok (.iload 4, 2) := by decide +kernel
theorem dX4_tellNothing_49 : decode cX4_tellNothing 49 = .ok (.iconst 1, 1) := by decide +kernel
theorem dX4_tellNothing_50 : decode cX4_tellNothing 50 = .ok (.if_icmp .gt 31, 3) := by decide +kernel
theorem dX4_tellNothing_53 : decode cX4_tellNothing 53 = .ok (.aload_n 1, 1) := by decide +kernel
theorem dX4_tellNothing_54 : decode cX4_tellNothing 54 = .ok (.aload_n 0, 1) := by decide +kernel
theorem dX4_tellNothing_55 : decode cX4_tellNothing 55 = .ok (.getfield 23, 3) := by decide +kernel
theorem dX4_tellNothing_58 : decode cX4_tellNothing 58 = .ok (.iload 4, 2) := by decide +kernel
theorem dX4_tellNothing_60 : decode cX4_tellNothing 60 = .ok (.aload_n 0, 1) := by decide +kernel
theorem dX4_tellNothing_61 : decode cX4_tellNothing 61 = .ok (.getfield 27, 3) := by decide +kernel
theorem dX4_tellNothing_64 : decode cX4_tellNothing 64 = .ok (.invokevirtual 47, 3) := by decide +kernel
theorem dX4_tellNothing_67 : decode cX4_tellNothing 67 = .ok (.aload_n 0, 1) := by decide +kernel
theorem dX4_tellNothing_68 : decode cX4_tellNothing 68 = .ok (.aload_n 0, 1) := by decide +kernel
theorem dX4_tellNothing_69 : decode cX4_tellNothing 69 = .ok (.getfield 27, 3) := by decide +kernel
theorem dX4_tellNothing_72 : decode cX4_tellNothing 72 = .ok (.invokevirtual 34, 3) := by decide +kernel
theorem dX4_tellNothing_75 : decode cX4_tellNothing 75 = .ok (.iinc 4 1, 3) := by decide +kernel
theorem dX4_tellNothing_78 : decode cX4_tellNothing 78 = .ok (.goto (-31), 3) := by decide +kernel
theorem dX4_tellNothing_81 : decode cX4_tellNothing 81 = .ok (.iinc 3 1, 3) := by decide +kernel
theorem dX4_tellNothing_84 : decode cX4_tellNothing 84 = .ok (.goto (-72), 3) := by decide +kernel
theorem dX4_tellNothing_87 : decode cX4_tellNothing 87 = .ok (.aload_n 0, 1) := by decide +kernel
theorem dX4_tellNothing_88 : decode cX4_tellNothing 88 = .ok (.getfield 30, 3) := by decide +kernel
theorem dX4_tellNothing_91 : decode cX4_tellNothing 91 = .ok (.bipush 40, 2) := by decide +kernel
theorem dX4_tellNothing_93 : decode cX4_tellNothing 93 = .ok (.if_icmp .le 7, 3) := by decide +kernel
theorem dX4_tellNothing_96 : decode cX4_tellNothing 96 = .ok (.iconst (-1), 1) := by decide +kernel
theorem dX4_tellNothing_97 : decode cX4_tellNothing 97 = .ok (.goto 4, 3) := by decide +kernel
theorem dX4_tellNothing_100 : decode cX4_tellNothing 100 = .ok (.iconst 1, 1) := by decide +kernel
theorem dX4_tellNothing_101 : decode cX4_tellNothing 101 = .ok (.ireturn, 1) := by decide +kernel
theorem dX4_find_0 : decode cX4_find 0 = .ok (.aload_n 0, 1) := by decide +kernel
theorem dX4_find_1 : decode cX4_find 1 = .ok (.getfield 30, 3) := by decide +kernel
theorem dX4_find_4 : decode cX4_find 4 = .ok (.bipush 40, 2) := by decide +kernel
theorem dX4_find_6 : decode cX4_find 6 = .ok (.if_icmp .le 4, 3) := by decide +kernel
theorem dX4_find_9 : decode cX4_find 9 = .ok (.return_, 1) := by decide +kernel
theorem dX4_find_10 : decode cX4_find 10 = .ok (.aload_n 0, 1) := by decide +kernel
theorem dX4_find_11 : decode cX4_find 11 = .ok (.aload_n 1, 1) := by decide +kernel
theorem dX4_find_12 : decode cX4_find 12 = .ok (.invokevirtual 51, 3) := by decide +kernel
theorem dX4_find_15 : decode cX4_find 15 = .ok (.iconst 0, 1) := by decide +kernel
theorem dX4_find_16 : decode cX4_find 16 = .ok (.istore_n 2, 1) := by decide +kernel
theorem dX4_find_17 : decode cX4_find 17 = .ok (.iload_n 2, 1) := by decide +kernel
theorem dX4_find_18 : decode cX4_find 18 = .ok (.aload_n 0, 1) := by decide +kernel
theorem dX4_find_19 : decode cX4_find 19 = .ok (.getfield 30, 3) := by decide +kernel
theorem dX4_find_22 : decode cX4_find 22 = .ok (.if_icmp .ge 18, 3) := by decide +kernel
theorem dX4_find_25 : decode cX4_find 25 = .ok (.aload_n 0, 1) := by decide +kernel
theorem dX4_find_26 : decode cX4_find 26 = .ok (.iload_n 2, 1) := by decide +kernel
theorem dX4_find_27 : decode cX4_find 27 = .ok (.invokevirtual 54, 3) := by decide +kernel
theorem dX4_find_30 : decode cX4_find 30 = .ok (.ifCond .eq 4, 3) := by decide +kernel
theorem dX4_find_33 : decode cX4_find 33 = .ok (.return_, 1) := by decide +kernel
theorem dX4_find_34 : decode cX4_find 34 = .ok (.iinc 2 1, 3) := by decide +kernel
theorem dX4_find_37 : decode cX4_find 37 = .ok (.goto (-20), 3) := by decide +kernel
theorem dX4_find_40 : decode cX4_find 40 = .ok (.aload_n 0, 1) := by decide +kernel
theorem dX4_find_41 : decode cX4_find 41 = .ok (.getfield 15, 3) := by decide +kernel
theorem dX4_find_44 : decode cX4_find 44 = .ok (.iconst 0, 1) := by decide +kernel
theorem dX4_find_45 : decode cX4_find 45 = .ok (.aload_n 0, 1) := by decide +kernel
theorem dX4_find_46 : decode cX4_find 46 = .ok (.getfield 9, 3) := by decide +kernel
theorem dX4_find_49 : decode cX4_find 49 = .ok (.aload_n 0, 1) := by decide +kernel
theorem dX4_find_50 : decode cX4_find 50 = .ok (.getfield 30, 3) := by decide +kernel
theorem dX4_find_53 : decode cX4_find 53 = .ok (.bipush 8, 2) := by decide +kernel
theorem dX4_find_55 : decode cX4_find 55 = .ok (.imul, 1) := by decide +kernel
theorem dX4_find_56 : decode cX4_find 56 = .ok (.bipush 8, 2) := by decide +kernel
theorem dX4_find_58 : decode cX4_find 58 = .ok (.invokestatic 58, 3) := by decide +kernel
theorem dX4_find_61 : decode cX4_find 61 = .ok (.aload_n 0, 1) := by decide +kernel
theorem dX4_find_62 : decode cX4_find 62 = .ok (.dup, 1) := by decide +kernel
theorem dX4_find_63 : decode cX4_find 63 = .ok (.getfield 30, 3) := by decide +kernel
theorem dX4_find_66 : decode cX4_find 66 = .ok (.iconst 1, 1) := by decide +kernel
theorem dX4_find_67 : decode cX4_find 67 = .ok (.iadd, 1) := by decide +kernel
theorem dX4_find_68 : decode cX4_find 68 = .ok (.putfield 30, 3) := by decide +kernel
theorem dX4_find_71 : decode cX4_find 71 = .ok (.return_, 1) := by decide +kernel
theorem dX4_isPackedAt_0 : decode cX4_isPackedAt 0 = .ok (.iload_n 1, 1) := by decide +kernel
theorem dX4_isPackedAt_1 : decode cX4_isPackedAt 1 = .ok (.ifCond .lt 9, 3) := by decide +kernel
theorem dX4_isPackedAt_4 : decode cX4_isPackedAt 4 = .ok (.iload_n 1, 1) := by decide +kernel
theorem dX4_isPackedAt_5 : decode cX4_isPackedAt 5 = .ok (.bipush 40, 2) := by decide +kernel
theorem dX4_isPackedAt_7 : decode cX4_isPackedAt 7 = .ok (.if_icmp .le 5, 3) := by decide +kernel
theorem dX4_isPackedAt_10 : decode cX4_isPackedAt 10 = .ok (.iconst 0, 1) := by decide +kernel
theorem dX4_isPackedAt_11 : decode cX4_isPackedAt 11 = .ok (.ireturn, 1) := by decide +kernel
theorem dX4_isPackedAt_12 : decode cX4_isPackedAt 12 = .ok (.iconst 0, 1) := by decide +kernel
theorem dX4_isPackedAt_13 : decode cX4_isPackedAt 13 = .ok (.istore_n 2, 1) := by decide +kernel
theorem dX4_isPackedAt_14 : decode cX4_isPackedAt 14 = .ok (.iload_n 2, 1) := by decide +kernel
theorem dX4_isPackedAt_15 : decode cX4_isPackedAt 15 = .ok (.bipush 8, 2) := by decide +kernel
theorem dX4_isPackedAt_17 : decode cX4_isPackedAt 17 = .ok (.if_icmp .ge 32, 3) := by decide +kernel
theorem dX4_isPackedAt_20 : decode cX4_isPackedAt 20 = .ok (.aload_n 0, 1) := by decide +kernel
theorem dX4_isPackedAt_21 : decode cX4_isPackedAt 21 = .ok (.getfield 9, 3) := by decide +kernel
theorem dX4_isPackedAt_24 : decode cX4_isPackedAt 24 = .ok (.iload_n 1, 1) := by decide +kernel
theorem dX4_isPackedAt_25 : decode cX4_isPackedAt 25 = .ok (.bipush 8, 2) := by decide +kernel
theorem dX4_isPackedAt_27 : decode cX4_isPackedAt 27 = .ok (.imul, 1) := by decide +kernel
theorem dX4_isPackedAt_28 : decode cX4_isPackedAt 28 = .ok (.iload_n 2, 1) := by decide +kernel
theorem dX4_isPackedAt_29 : decode cX4_isPackedAt 29 = .ok (.iadd, 1) := by decide +kernel
theorem dX4_isPackedAt_30 : decode cX4_isPackedAt 30 = .ok (.laload, 1) := by decide +kernel
theorem dX4_isPackedAt_31 : decode cX4_isPackedAt 31 = .ok (.aload_n 0, 1) := by decide +kernel
theorem dX4_isPackedAt_32 : decode cX4_isPackedAt 32 = .ok (.getfield 15, 3) := by decide +kernel
theorem dX4_isPackedAt_35 : decode cX4_isPackedAt 35 = .ok (.iload_n 2, 1) := by decide +kernel
theorem dX4_isPackedAt_36 : decode cX4_isPackedAt 36 = .ok (.laload, 1) := by decide +kernel
theorem dX4_isPackedAt_37 : decode cX4_isPackedAt 37 = .ok (.lcmp, 1) := by decide +kernel
theorem dX4_isPackedAt_38 : decode cX4_isPackedAt 38 = .ok (.ifCond .eq 5, 3) := by decide +kernel
theorem dX4_isPackedAt_41 : decode cX4_isPackedAt 41 = .ok (.iconst 0, 1) := by decide +kernel
theorem dX4_isPackedAt_42 : decode cX4_isPackedAt 42 = .ok (.ireturn, 1) := by decide +kernel
theorem dX4_isPackedAt_43 : decode cX4_isPackedAt 43 = .ok (.iinc 2 1, 3) := by decide +kernel
theorem dX4_isPackedAt_46 : decode cX4_isPackedAt 46 = .ok (.goto (-32), 3) := by decide +kernel
theorem dX4_isPackedAt_49 : decode cX4_isPackedAt 49 = .ok (.iconst 1, 1) := by decide +kernel
theorem dX4_isPackedAt_50 : decode cX4_isPackedAt 50 = .ok (.ireturn, 1) := by decide +kernel
theorem dX4_pack_0 : decode cX4_pack 0 = .ok (.iconst 0, 1) := by decide +kernel
theorem dX4_pack_1 : decode cX4_pack 1 = .ok (.istore_n 2, 1) := by decide +kernel
theorem dX4_pack_2 : decode cX4_pack 2 = .ok (.iload_n 2, 1) := by decide +kernel
theorem dX4_pack_3 : decode cX4_pack 3 = .ok (.bipush 8, 2) := by decide +kernel
theorem dX4_pack_5 : decode cX4_pack 5 = .ok (.if_icmp .ge 16, 3) := by decide +kernel
theorem dX4_pack_8 : decode cX4_pack 8 = .ok (.aload_n 0, 1) := by decide +kernel
theorem dX4_pack_9 : decode cX4_pack 9 = .ok (.getfield 15, 3) := by decide +kernel
theorem dX4_pack_12 : decode cX4_pack 12 = .ok (.iload_n 2, 1) := by decide +kernel
theorem dX4_pack_13 : decode cX4_pack 13 = .ok (.lconst 0, 1) := by decide +kernel
theorem dX4_pack_14 : decode cX4_pack 14 = .ok (.lastore, 1) := by decide +kernel
theorem dX4_pack_15 : decode cX4_pack 15 = .ok (.iinc 2 1, 3) := by decide +kernel
theorem dX4_pack_18 : decode cX4_pack 18 = .ok (.goto (-16), 3) := by decide +kernel
theorem dX4_pack_21 : decode cX4_pack 21 = .ok (.iconst 0, 1) := by decide +kernel
theorem dX4_pack_22 : decode cX4_pack 22 = .ok (.istore_n 2, 1) := by decide +kernel
theorem dX4_pack_23 : decode cX4_pack 23 = .ok (.iload_n 2, 1) := by decide +kernel
theorem dX4_pack_24 : decode cX4_pack 24 = .ok (.aload_n 1, 1) := by decide +kernel
theorem dX4_pack_25 : decode cX4_pack 25 = .ok (.invokevirtual 64, 3) := by decide +kernel
theorem dX4_pack_28 : decode cX4_pack 28 = .ok (.if_icmp .ge 45, 3) := by decide +kernel
theorem dX4_pack_31 : decode cX4_pack 31 = .ok (.iload_n 2, 1) := by decide +kernel
theorem dX4_pack_32 : decode cX4_pack 32 = .ok (.sipush 128, 3) := by decide +kernel
theorem dX4_pack_35 : decode cX4_pack 35 = .ok (.if_icmp .ge 38, 3) := by decide +kernel
theorem dX4_pack_38 : decode cX4_pack 38 = .ok (.aload_n 1, 1) := by decide +kernel
theorem dX4_pack_39 : decode cX4_pack 39 = .ok (.iload_n 2, 1) := by decide +kernel
theorem dX4_pack_40 : decode cX4_pack 40 = .ok (.invokevirtual 67, 3) := by decide +kernel
theorem dX4_pack_43 : decode cX4_pack 43 = .ok (.iconst 1, 1) := by decide +kernel
theorem dX4_pack_44 : decode cX4_pack 44 = .ok (.iadd, 1) := by decide +kernel
theorem dX4_pack_45 : decode cX4_pack 45 = .ok (.i2l, 1) := by decide +kernel
theorem dX4_pack_46 : decode cX4_pack 46 = .ok (.lstore_n 3, 1) := by decide +kernel
theorem dX4_pack_47 : decode cX4_pack 47 = .ok (.aload_n 0, 1) := by decide +kernel
theorem dX4_pack_48 : decode cX4_pack 48 = .ok (.getfield 15, 3) := by decide +kernel
theorem dX4_pack_51 : decode cX4_pack 51 = .ok (.iload_n 2, 1) := by decide +kernel
theorem dX4_pack_52 : decode cX4_pack 52 = .ok (.bipush 16, 2) := by decide +kernel
theorem dX4_pack_54 : decode cX4_pack 54 = .ok (.idiv, 1) := by decide +kernel
theorem dX4_pack_55 : decode cX4_pack 55 = .ok (.dup2, 1) := by decide +kernel
theorem dX4_pack_56 : decode cX4_pack 56 = .ok (.laload, 1) := by decide +kernel
theorem dX4_pack_57 : decode cX4_pack 57 = .ok (.lload_n 3, 1) := by decide +kernel
theorem dX4_pack_58 : decode cX4_pack 58 = .ok (.iconst 4, 1) := by decide +kernel
theorem dX4_pack_59 : decode cX4_pack 59 = .ok (.iload_n 2, 1) := by decide +kernel
theorem dX4_pack_60 : decode cX4_pack 60 = .ok (.bipush 16, 2) := by decide +kernel
theorem dX4_pack_62 : decode cX4_pack 62 = .ok (.irem, 1) := by decide +kernel
theorem dX4_pack_63 : decode cX4_pack 63 = .ok (.imul, 1) := by decide +kernel
theorem dX4_pack_64 : decode cX4_pack 64 = .ok (.lshl, 1) := by decide +kernel
theorem dX4_pack_65 : decode cX4_pack 65 = .ok (.lor, 1) := by decide +kernel
theorem dX4_pack_66 : decode cX4_pack 66 = .ok (.lastore, 1) := by decide +kernel
theorem dX4_pack_67 : decode cX4_pack 67 = .ok (.iinc 2 1, 3) := by decide +kernel
theorem dX4_pack_70 : decode cX4_pack 70 = .ok (.goto (-47), 3) := by decide +kernel
theorem dX4_pack_73 : decode cX4_pack 73 = .ok (.return_, 1) := by decide +kernel
theorem dX4_unpack_0 : decode cX4_unpack 0 = .ok (.aload_n 0, 1) := by decide +kernel
theorem dX4_unpack_1 : decode cX4_unpack 1 = .ok (.getfield 23, 3) := by decide +kernel
theorem dX4_unpack_4 : decode cX4_unpack 4 = .ok (.invokevirtual 71, 3) := by decide +kernel
theorem dX4_unpack_7 : decode cX4_unpack 7 = .ok (.iload_n 1, 1) := by decide +kernel
theorem dX4_unpack_8 : decode cX4_unpack 8 = .ok (.ifCond .lt 9, 3) := by decide +kernel
theorem dX4_unpack_11 : decode cX4_unpack 11 = .ok (.iload_n 1, 1) := by decide +kernel
theorem dX4_unpack_12 : decode cX4_unpack 12 = .ok (.bipush 40, 2) := by decide +kernel
theorem dX4_unpack_14 : decode cX4_unpack 14 = .ok (.if_icmp .le 4, 3) := by decide +kernel
theorem dX4_unpack_17 : decode cX4_unpack 17 = .ok (.return_, 1) := by decide +kernel
theorem dX4_unpack_18 : decode cX4_unpack 18 = .ok (.iconst 0, 1) := by decide +kernel
theorem dX4_unpack_19 : decode cX4_unpack 19 = .ok (.istore_n 2, 1) := by decide +kernel
theorem dX4_unpack_20 : decode cX4_unpack 20 = .ok (.iload_n 2, 1) := by decide +kernel
theorem dX4_unpack_21 : decode cX4_unpack 21 = .ok (.sipush 128, 3) := by decide +kernel
theorem dX4_unpack_24 : decode cX4_unpack 24 = .ok (.if_icmp .ge 57, 3) := by decide +kernel
theorem dX4_unpack_27 : decode cX4_unpack 27 = .ok (.aload_n 0, 1) := by decide +kernel
theorem dX4_unpack_28 : decode cX4_unpack 28 = .ok (.getfield 9, 3) := by decide +kernel
theorem dX4_unpack_31 : decode cX4_unpack 31 = .ok (.iload_n 1, 1) := by decide +kernel
theorem dX4_unpack_32 : decode cX4_unpack 32 = .ok (.bipush 8, 2) := by decide +kernel
theorem dX4_unpack_34 : decode cX4_unpack 34 = .ok (.imul, 1) := by decide +kernel
theorem dX4_unpack_35 : decode cX4_unpack 35 = .ok (.iload_n 2, 1) := by decide +kernel
theorem dX4_unpack_36 : decode cX4_unpack 36 = .ok (.bipush 16, 2) := by decide +kernel
theorem dX4_unpack_38 : decode cX4_unpack 38 = .ok (.idiv, 1) := by decide +kernel
theorem dX4_unpack_39 : decode cX4_unpack 39 = .ok (.iadd, 1) := by decide +kernel
theorem dX4_unpack_40 : decode cX4_unpack 40 = .ok (.laload, 1) := by decide +kernel
theorem dX4_unpack_41 : decode cX4_unpack 41 = .ok (.lstore_n 3, 1) := by decide +kernel
theorem dX4_unpack_42 : decode cX4_unpack 42 = .ok (.lload_n 3, 1) := by decide +kernel
theorem dX4_unpack_43 : decode cX4_unpack 43 = .ok (.iconst 4, 1) := by decide +kernel
theorem dX4_unpack_44 : decode cX4_unpack 44 = .ok (.iload_n 2, 1) := by decide +kernel
theorem dX4_unpack_45 : decode cX4_unpack 45 = .ok (.bipush 16, 2) := by decide +kernel
theorem dX4_unpack_47 : decode cX4_unpack 47 = .ok (.irem, 1) := by decide +kernel
theorem dX4_unpack_48 : decode cX4_unpack 48 = .ok (.imul, 1) := by decide +kernel
theorem dX4_unpack_49 : decode cX4_unpack 49 = .ok (.lshr, 1) := by decide +kernel
theorem dX4_unpack_50 : decode cX4_unpack 50 = .ok (.ldc2_w 74, 3) := by decide +kernel
theorem dX4_unpack_53 : decode cX4_unpack 53 = .ok (.land, 1) := by decide +kernel
theorem dX4_unpack_54 : decode cX4_unpack 54 = .ok (.l2i, 1) := by decide +kernel
theorem dX4_unpack_55 : decode cX4_unpack 55 = .ok (.iconst 1, 1) := by decide +kernel
theorem dX4_unpack_56 : decode cX4_unpack 56 = .ok (.isub, 1) := by decide +kernel
theorem dX4_unpack_57 : decode cX4_unpack 57 = .ok (.istore 5, 2) := by decide +kernel
theorem dX4_unpack_59 : decode cX4_unpack 59 = .ok (.iload 5, 2) := by decide +kernel
theorem dX4_unpack_61 : decode cX4_unpack 61 = .ok (.iconst (-1), 1) := by decide +kernel
theorem dX4_unpack_62 : decode cX4_unpack 62 = .ok (.if_icmp .ne 4, 3) := by decide +kernel
theorem dX4_unpack_65 : decode cX4_unpack 65 = .ok (.return_, 1) := by decide +kernel
theorem dX4_unpack_66 : decode cX4_unpack 66 = .ok (.aload_n 0, 1) := by decide +kernel
theorem dX4_unpack_67 : decode cX4_unpack 67 = .ok (.getfield 23, 3) := by decide +kernel
theorem dX4_unpack_70 : decode cX4_unpack 70 = .ok (.iload 5, 2) := by decide +kernel
theorem dX4_unpack_72 : decode cX4_unpack 72 = .ok (.invokevirtual 76, 3) := by decide +kernel
theorem dX4_unpack_75 : decode cX4_unpack 75 = .ok (.iinc 2 1, 3) := by decide +kernel
theorem dX4_unpack_78 : decode cX4_unpack 78 = .ok (.goto (-58), 3) := by decide +kernel
theorem dX4_unpack_81 : decode cX4_unpack 81 = .ok (.return_, 1) := by decide +kernel
theorem dX5_init_0 : decode cX5_init 0 = .ok (.aload_n 0, 1) := by decide +kernel
theorem dX5_init_1 : decode cX5_init 1 = .ok (.invokespecial 3, 3) := by decide +kernel
theorem dX5_init_4 : decode cX5_init 4 = .ok (.aload_n 0, 1) := by decide +kernel
theorem dX5_init_5 : decode cX5_init 5 = .ok (.bipush 6, 2) := by decide +kernel
theorem dX5_init_7 : decode cX5_init 7 = .ok (.newarray .int, 2) := by decide +kernel
theorem dX5_init_9 : decode cX5_init 9 = .ok (.putfield 9, 3) := by decide +kernel
theorem dX5_init_12 : decode cX5_init 12 = .ok (.aload_n 0, 1) := by decide +kernel
theorem dX5_init_13 : decode cX5_init 13 = .ok (.iconst 0, 1) := by decide +kernel
theorem dX5_init_14 : decode cX5_init 14 = .ok (.putfield 15, 3) := by decide +kernel
theorem dX5_init_17 : decode cX5_init 17 = .ok (.iconst 0, 1) := by decide +kernel
theorem dX5_init_18 : decode cX5_init 18 = .ok (.istore_n 1, 1) := by decide +kernel
theorem dX5_init_19 : decode cX5_init 19 = .ok (.iload_n 1, 1) := by decide +kernel
theorem dX5_init_20 : decode cX5_init 20 = .ok (.bipush 6, 2) := by decide +kernel
theorem dX5_init_22 : decode cX5_init 22 = .ok (.if_icmp .ge 17, 3) := by decide +kernel
theorem dX5_init_25 : decode cX5_init 25 = .ok (.aload_n 0, 1) := by decide +kernel
theorem dX5_init_26 : decode cX5_init 26 = .ok (.getfield 9, 3) := by decide +kernel
theorem dX5_init_29 : decode cX5_init 29 = .ok (.iload_n 1, 1) := by decide +kernel
theorem dX5_init_30 : decode cX5_init 30 = .ok (.bipush 31, 2) := by decide +kernel
theorem dX5_init_32 : decode cX5_init 32 = .ok (.iastore, 1) := by decide +kernel
theorem dX5_init_33 : decode cX5_init 33 = .ok (.iinc 1 1, 3) := by decide +kernel
theorem dX5_init_36 : decode cX5_init 36 = .ok (.goto (-17), 3) := by decide +kernel
theorem dX5_init_39 : decode cX5_init 39 = .ok (.return_, 1) := by decide +kernel
theorem dX5_size_0 : decode cX5_size 0 = .ok (.aload_n 0, 1) := by decide +kernel
theorem dX5_size_1 : decode cX5_size 1 = .ok (.getfield 15, 3) := by decide +kernel
theorem dX5_size_4 : decode cX5_size 4 = .ok (.ireturn, 1) := by decide +kernel
theorem dX5_sortsOf_0 : decode cX5_sortsOf 0 = .ok (.iload_n 1, 1) := by decide +kernel
theorem dX5_sortsOf_1 : decode cX5_sortsOf 1 = .ok (.ifCond .lt 18, 3) := by decide +kernel
theorem dX5_sortsOf_4 : decode cX5_sortsOf 4 = .ok (.iload_n 1, 1) := by decide +kernel
theorem dX5_sortsOf_5 : decode cX5_sortsOf 5 = .ok (.bipush 6, 2) := by decide +kernel
theorem dX5_sortsOf_7 : decode cX5_sortsOf 7 = .ok (.if_icmp .ge 12, 3) := by decide +kernel
theorem dX5_sortsOf_10 : decode cX5_sortsOf 10 = .ok (.aload_n 0, 1) := by decide +kernel
theorem dX5_sortsOf_11 : decode cX5_sortsOf 11 = .ok (.getfield 9, 3) := by decide +kernel
theorem dX5_sortsOf_14 : decode cX5_sortsOf 14 = .ok (.iload_n 1, 1) := by decide +kernel
theorem dX5_sortsOf_15 : decode cX5_sortsOf 15 = .ok (.iaload, 1) := by decide +kernel
theorem dX5_sortsOf_16 : decode cX5_sortsOf 16 = .ok (.goto 4, 3) := by decide +kernel
theorem dX5_sortsOf_19 : decode cX5_sortsOf 19 = .ok (.iconst 0, 1) := by decide +kernel
theorem dX5_sortsOf_20 : decode cX5_sortsOf 20 = .ok (.ireturn, 1) := by decide +kernel
theorem dX5_add_0 : decode cX5_add 0 = .ok (.iload_n 1, 1) := by decide +kernel
theorem dX5_add_1 : decode cX5_add 1 = .ok (.ifCond .lt 29, 3) := by decide +kernel
theorem dX5_add_4 : decode cX5_add 4 = .ok (.iload_n 1, 1) := by decide +kernel
theorem dX5_add_5 : decode cX5_add 5 = .ok (.bipush 6, 2) := by decide +kernel
theorem dX5_add_7 : decode cX5_add 7 = .ok (.if_icmp .ge 23, 3) := by decide +kernel
theorem dX5_add_10 : decode cX5_add 10 = .ok (.aload_n 0, 1) := by decide +kernel
theorem dX5_add_11 : decode cX5_add 11 = .ok (.getfield 9, 3) := by decide +kernel
theorem dX5_add_14 : decode cX5_add 14 = .ok (.iload_n 1, 1) := by decide +kernel
theorem dX5_add_15 : decode cX5_add 15 = .ok (.dup2, 1) := by decide +kernel
theorem dX5_add_16 : decode cX5_add 16 = .ok (.iaload, 1) := by decide +kernel
theorem dX5_add_17 : decode cX5_add 17 = .ok (.iload_n 2, 1) := by decide +kernel
theorem dX5_add_18 : decode cX5_add 18 = .ok (.iand, 1) := by decide +kernel
theorem dX5_add_19 : decode cX5_add 19 = .ok (.iastore, 1) := by decide +kernel
theorem dX5_add_20 : decode cX5_add 20 = .ok (.aload_n 0, 1) := by decide +kernel
theorem dX5_add_21 : decode cX5_add 21 = .ok (.dup, 1) := by decide +kernel
theorem dX5_add_22 : decode cX5_add 22 = .ok (.getfield 15, 3) := by decide +kernel
theorem dX5_add_25 : decode cX5_add 25 = .ok (.iconst 1, 1) := by decide +kernel
theorem dX5_add_26 : decode cX5_add 26 = .ok (.iadd, 1) := by decide +kernel
theorem dX5_add_27 : decode cX5_add 27 = .ok (.putfield 15, 3) := by decide +kernel
theorem dX5_add_30 : decode cX5_add 30 = .ok (.return_, 1) := by decide +kernel
theorem dX5_clear_0 : decode cX5_clear 0 = .ok (.aload_n 0, 1) := by decide +kernel
theorem dX5_clear_1 : decode cX5_clear 1 = .ok (.iconst 0, 1) := by decide +kernel
theorem dX5_clear_2 : decode cX5_clear 2 = .ok (.putfield 15, 3) := by decide +kernel
theorem dX5_clear_5 : decode cX5_clear 5 = .ok (.iconst 0, 1) := by decide +kernel
theorem dX5_clear_6 : decode cX5_clear 6 = .ok (.istore_n 1, 1) := by decide +kernel
theorem dX5_clear_7 : decode cX5_clear 7 = .ok (.iload_n 1, 1) := by decide +kernel
theorem dX5_clear_8 : decode cX5_clear 8 = .ok (.bipush 6, 2) := by decide +kernel
theorem dX5_clear_10 : decode cX5_clear 10 = .ok (.if_icmp .ge 17, 3) := by decide +kernel
theorem dX5_clear_13 : decode cX5_clear 13 = .ok (.aload_n 0, 1) := by decide +kernel
theorem dX5_clear_14 : decode cX5_clear 14 = .ok (.getfield 9, 3) := by decide +kernel
theorem dX5_clear_17 : decode cX5_clear 17 = .ok (.iload_n 1, 1) := by decide +kernel
theorem dX5_clear_18 : decode cX5_clear 18 = .ok (.bipush 31, 2) := by decide +kernel
theorem dX5_clear_20 : decode cX5_clear 20 = .ok (.iastore, 1) := by decide +kernel
theorem dX5_clear_21 : decode cX5_clear 21 = .ok (.iinc 1 1, 3) := by decide +kernel
theorem dX5_clear_24 : decode cX5_clear 24 = .ok (.goto (-17), 3) := by decide +kernel
theorem dX5_clear_27 : decode cX5_clear 27 = .ok (.return_, 1) := by decide +kernel
theorem dX5_copyFrom_0 : decode cX5_copyFrom 0 = .ok (.aload_n 0, 1) := by decide +kernel
theorem dX5_copyFrom_1 : decode cX5_copyFrom 1 = .ok (.aload_n 1, 1) := by decide +kernel
theorem dX5_copyFrom_2 : decode cX5_copyFrom 2 = .ok (.getfield 15, 3) := by decide +kernel
theorem dX5_copyFrom_5 : decode cX5_copyFrom 5 = .ok (.putfield 15, 3) := by decide +kernel
theorem dX5_copyFrom_8 : decode cX5_copyFrom 8 = .ok (.aload_n 1, 1) := by decide +kernel
theorem dX5_copyFrom_9 : decode cX5_copyFrom 9 = .ok (.getfield 9, 3) := by decide +kernel
theorem dX5_copyFrom_12 : decode cX5_copyFrom 12 = .ok (.iconst 0, 1) := by decide +kernel
theorem dX5_copyFrom_13 : decode cX5_copyFrom 13 = .ok (.aload_n 0, 1) := by decide +kernel
theorem dX5_copyFrom_14 : decode cX5_copyFrom 14 = .ok (.getfield 9, 3) := by decide +kernel
theorem dX5_copyFrom_17 : decode cX5_copyFrom 17 = .ok (.iconst 0, 1) := by decide +kernel
theorem dX5_copyFrom_18 : decode cX5_copyFrom 18 = .ok (.bipush 6, 2) := by decide +kernel
theorem dX5_copyFrom_20 : decode cX5_copyFrom 20 = .ok (.invokestatic 19, 3) := by decide +kernel
theorem dX5_copyFrom_23 : decode cX5_copyFrom 23 = .ok (.return_, 1) := by decide +kernel
theorem dJ6_bitCount_0f7a4_0 : decode cJ6_bitCount_0f7a4 0 = .ok (.iload_n 0, 1) := by decide +kernel
theorem dJ6_bitCount_0f7a4_1 : decode cJ6_bitCount_0f7a4 1 = .ok (.iload_n 0, 1) := by decide +kernel
theorem dJ6_bitCount_0f7a4_2 : decode cJ6_bitCount_0f7a4 2 = .ok (.iconst 1, 1) := by decide +kernel
theorem dJ6_bitCount_0f7a4_3 : decode cJ6_bitCount_0f7a4 3 = .ok (.iushr, 1) := by decide +kernel
theorem dJ6_bitCount_0f7a4_4 : decode cJ6_bitCount_0f7a4 4 = .ok (.ldc_w 265, 3) := by decide +kernel
theorem dJ6_bitCount_0f7a4_7 : decode cJ6_bitCount_0f7a4 7 = .ok (.iand, 1) := by decide +kernel
theorem dJ6_bitCount_0f7a4_8 : decode cJ6_bitCount_0f7a4 8 = .ok (.isub, 1) := by decide +kernel
theorem dJ6_bitCount_0f7a4_9 : decode cJ6_bitCount_0f7a4 9 = .ok (.istore_n 0, 1) := by decide +kernel
theorem dJ6_bitCount_0f7a4_10 : decode cJ6_bitCount_0f7a4 10 = .ok (.iload_n 0, 1) := by decide +kernel
theorem dJ6_bitCount_0f7a4_11 : decode cJ6_bitCount_0f7a4 11 = .ok (.ldc_w 266, 3) := by decide +kernel
theorem dJ6_bitCount_0f7a4_14 : decode cJ6_bitCount_0f7a4 14 = .ok (.iand, 1) := by decide +kernel
theorem dJ6_bitCount_0f7a4_15 : decode cJ6_bitCount_0f7a4 15 = .ok (.iload_n 0, 1) := by decide +kernel
theorem dJ6_bitCount_0f7a4_16 : decode cJ6_bitCount_0f7a4 16 = .ok (.iconst 2, 1) := by decide +kernel
theorem dJ6_bitCount_0f7a4_17 : decode cJ6_bitCount_0f7a4 17 = .ok (.iushr, 1) := by decide +kernel
theorem dJ6_bitCount_0f7a4_18 : decode cJ6_bitCount_0f7a4 18 = .ok (.ldc_w 266, 3) := by decide +kernel
theorem dJ6_bitCount_0f7a4_21 : decode cJ6_bitCount_0f7a4 21 = .ok (.iand, 1) := by decide +kernel
theorem dJ6_bitCount_0f7a4_22 : decode cJ6_bitCount_0f7a4 22 = .ok (.iadd, 1) := by decide +kernel
theorem dJ6_bitCount_0f7a4_23 : decode cJ6_bitCount_0f7a4 23 = .ok (.istore_n 0, 1) := by decide +kernel
theorem dJ6_bitCount_0f7a4_24 : decode cJ6_bitCount_0f7a4 24 = .ok (.iload_n 0, 1) := by decide +kernel
theorem dJ6_bitCount_0f7a4_25 : decode cJ6_bitCount_0f7a4 25 = .ok (.iload_n 0, 1) := by decide +kernel
theorem dJ6_bitCount_0f7a4_26 : decode cJ6_bitCount_0f7a4 26 = .ok (.iconst 4, 1) := by decide +kernel
theorem dJ6_bitCount_0f7a4_27 : decode cJ6_bitCount_0f7a4 27 = .ok (.iushr, 1) := by decide +kernel
theorem dJ6_bitCount_0f7a4_28 : decode cJ6_bitCount_0f7a4 28 = .ok (.iadd, 1) := by decide +kernel
theorem dJ6_bitCount_0f7a4_29 : decode cJ6_bitCount_0f7a4 29 = .ok (.ldc_w 267, 3) := by decide +kernel
theorem dJ6_bitCount_0f7a4_32 : decode cJ6_bitCount_0f7a4 32 = .ok (.iand, 1) := by decide +kernel
theorem dJ6_bitCount_0f7a4_33 : decode cJ6_bitCount_0f7a4 33 = .ok (.istore_n 0, 1) := by decide +kernel
theorem dJ6_bitCount_0f7a4_34 : decode cJ6_bitCount_0f7a4 34 = .ok (.iload_n 0, 1) := by decide +kernel
theorem dJ6_bitCount_0f7a4_35 : decode cJ6_bitCount_0f7a4 35 = .ok (.iload_n 0, 1) := by decide +kernel
theorem dJ6_bitCount_0f7a4_36 : decode cJ6_bitCount_0f7a4 36 = .ok (.bipush 8, 2) := by decide +kernel
theorem dJ6_bitCount_0f7a4_38 : decode cJ6_bitCount_0f7a4 38 = .ok (.iushr, 1) := by decide +kernel
theorem dJ6_bitCount_0f7a4_39 : decode cJ6_bitCount_0f7a4 39 = .ok (.iadd, 1) := by decide +kernel
theorem dJ6_bitCount_0f7a4_40 : decode cJ6_bitCount_0f7a4 40 = .ok (.istore_n 0, 1) := by decide +kernel
theorem dJ6_bitCount_0f7a4_41 : decode cJ6_bitCount_0f7a4 41 = .ok (.iload_n 0, 1) := by decide +kernel
theorem dJ6_bitCount_0f7a4_42 : decode cJ6_bitCount_0f7a4 42 = .ok (.iload_n 0, 1) := by decide +kernel
theorem dJ6_bitCount_0f7a4_43 : decode cJ6_bitCount_0f7a4 43 = .ok (.bipush 16, 2) := by decide +kernel
theorem dJ6_bitCount_0f7a4_45 : decode cJ6_bitCount_0f7a4 45 = .ok (.iushr, 1) := by decide +kernel
theorem dJ6_bitCount_0f7a4_46 : decode cJ6_bitCount_0f7a4 46 = .ok (.iadd, 1) := by decide +kernel
theorem dJ6_bitCount_0f7a4_47 : decode cJ6_bitCount_0f7a4 47 = .ok (.istore_n 0, 1) := by decide +kernel
theorem dJ6_bitCount_0f7a4_48 : decode cJ6_bitCount_0f7a4 48 = .ok (.iload_n 0, 1) := by decide +kernel
theorem dJ6_bitCount_0f7a4_49 : decode cJ6_bitCount_0f7a4 49 = .ok (.bipush 63, 2) := by decide +kernel
theorem dJ6_bitCount_0f7a4_51 : decode cJ6_bitCount_0f7a4 51 = .ok (.iand, 1) := by decide +kernel
theorem dJ6_bitCount_0f7a4_52 : decode cJ6_bitCount_0f7a4 52 = .ok (.ireturn, 1) := by decide +kernel
theorem dJ9_max_7cf53_0 : decode cJ9_max_7cf53 0 = .ok (.iload_n 0, 1) := by decide +kernel
theorem dJ9_max_7cf53_1 : decode cJ9_max_7cf53 1 = .ok (.iload_n 1, 1) := by decide +kernel
theorem dJ9_max_7cf53_2 : decode cJ9_max_7cf53 2 = .ok (.if_icmp .lt 7, 3) := by decide +kernel
theorem dJ9_max_7cf53_5 : decode cJ9_max_7cf53 5 = .ok (.iload_n 0, 1) := by decide +kernel
theorem dJ9_max_7cf53_6 : decode cJ9_max_7cf53 6 = .ok (.goto 4, 3) := by decide +kernel
theorem dJ9_max_7cf53_9 : decode cJ9_max_7cf53 9 = .ok (.iload_n 1, 1) := by decide +kernel
theorem dJ9_max_7cf53_10 : decode cJ9_max_7cf53 10 = .ok (.ireturn, 1) := by decide +kernel
theorem dJ9_min_7cf53_0 : decode cJ9_min_7cf53 0 = .ok (.iload_n 0, 1) := by decide +kernel
theorem dJ9_min_7cf53_1 : decode cJ9_min_7cf53 1 = .ok (.iload_n 1, 1) := by decide +kernel
theorem dJ9_min_7cf53_2 : decode cJ9_min_7cf53 2 = .ok (.if_icmp .gt 7, 3) := by decide +kernel
theorem dJ9_min_7cf53_5 : decode cJ9_min_7cf53 5 = .ok (.iload_n 0, 1) := by decide +kernel
theorem dJ9_min_7cf53_6 : decode cJ9_min_7cf53 6 = .ok (.goto 4, 3) := by decide +kernel
theorem dJ9_min_7cf53_9 : decode cJ9_min_7cf53 9 = .ok (.iload_n 1, 1) := by decide +kernel
theorem dJ9_min_7cf53_10 : decode cJ9_min_7cf53 10 = .ok (.ireturn, 1) := by decide +kernel
theorem dJ0_length_8abf5_0 : decode cJ0_length_8abf5 0 = .ok (.aload_n 0, 1) := by decide +kernel
theorem dJ0_length_8abf5_1 : decode cJ0_length_8abf5 1 = .ok (.getfield 9, 3) := by decide +kernel
theorem dJ0_length_8abf5_4 : decode cJ0_length_8abf5 4 = .ok (.arraylength, 1) := by decide +kernel
theorem dJ0_length_8abf5_5 : decode cJ0_length_8abf5 5 = .ok (.aload_n 0, 1) := by decide +kernel
theorem dJ0_length_8abf5_6 : decode cJ0_length_8abf5 6 = .ok (.invokevirtual 335, 3) := by decide +kernel
theorem dJ0_length_8abf5_9 : decode cJ0_length_8abf5 9 = .ok (.ishr, 1) := by decide +kernel
theorem dJ0_length_8abf5_10 : decode cJ0_length_8abf5 10 = .ok (.ireturn, 1) := by decide +kernel
theorem dJ0_charAt_5068e_0 : decode cJ0_charAt_5068e 0 = .ok (.aload_n 0, 1) := by decide +kernel
theorem dJ0_charAt_5068e_1 : decode cJ0_charAt_5068e 1 = .ok (.invokevirtual 492, 3) := by decide +kernel
theorem dJ0_charAt_5068e_4 : decode cJ0_charAt_5068e 4 = .ok (.ifCond .eq 12, 3) := by decide +kernel
theorem dJ0_charAt_5068e_7 : decode cJ0_charAt_5068e 7 = .ok (.aload_n 0, 1) := by decide +kernel
theorem dJ0_charAt_5068e_8 : decode cJ0_charAt_5068e 8 = .ok (.getfield 9, 3) := by decide +kernel
theorem dJ0_charAt_5068e_11 : decode cJ0_charAt_5068e 11 = .ok (.iload_n 1, 1) := by decide +kernel
theorem dJ0_charAt_5068e_12 : decode cJ0_charAt_5068e 12 = .ok (.invokestatic 495, 3) := by decide +kernel
theorem dJ0_charAt_5068e_15 : decode cJ0_charAt_5068e 15 = .ok (.ireturn, 1) := by decide +kernel
theorem dJ0_charAt_5068e_16 : decode cJ0_charAt_5068e 16 = .ok (.aload_n 0, 1) := by decide +kernel
theorem dJ0_charAt_5068e_17 : decode cJ0_charAt_5068e 17 = .ok (.getfield 9, 3) := by decide +kernel
theorem dJ0_charAt_5068e_20 : decode cJ0_charAt_5068e 20 = .ok (.iload_n 1, 1) := by decide +kernel
theorem dJ0_charAt_5068e_21 : decode cJ0_charAt_5068e 21 = .ok (.invokestatic 498, 3) := by decide +kernel
theorem dJ0_charAt_5068e_24 : decode cJ0_charAt_5068e 24 = .ok (.ireturn, 1) := by decide +kernel
theorem dJ0_coder_7d493_0 : decode cJ0_coder_7d493 0 = .ok (.getstatic 38, 3) := by decide +kernel
theorem dJ0_coder_7d493_3 : decode cJ0_coder_7d493 3 = .ok (.ifCond .eq 10, 3) := by decide +kernel
theorem dJ0_coder_7d493_6 : decode cJ0_coder_7d493 6 = .ok (.aload_n 0, 1) := by decide +kernel
theorem dJ0_coder_7d493_7 : decode cJ0_coder_7d493 7 = .ok (.getfield 15, 3) := by decide +kernel
theorem dJ0_coder_7d493_10 : decode cJ0_coder_7d493 10 = .ok (.goto 4, 3) := by decide +kernel
theorem dJ0_coder_7d493_13 : decode cJ0_coder_7d493 13 = .ok (.iconst 1, 1) := by decide +kernel
theorem dJ0_coder_7d493_14 : decode cJ0_coder_7d493 14 = .ok (.ireturn, 1) := by decide +kernel
theorem dJ0_isLatin1_aae02_0 : decode cJ0_isLatin1_aae02 0 = .ok (.getstatic 38, 3) := by decide +kernel
theorem dJ0_isLatin1_aae02_3 : decode cJ0_isLatin1_aae02 3 = .ok (.ifCond .eq 14, 3) := by decide +kernel
theorem dJ0_isLatin1_aae02_6 : decode cJ0_isLatin1_aae02 6 = .ok (.aload_n 0, 1) := by decide +kernel
theorem dJ0_isLatin1_aae02_7 : decode cJ0_isLatin1_aae02 7 = .ok (.getfield 15, 3) := by decide +kernel
theorem dJ0_isLatin1_aae02_10 : decode cJ0_isLatin1_aae02 10 = .ok (.ifCond .ne 7, 3) := by decide +kernel
theorem dJ0_isLatin1_aae02_13 : decode cJ0_isLatin1_aae02 13 = .ok (.iconst 1, 1) := by decide +kernel
theorem dJ0_isLatin1_aae02_14 : decode cJ0_isLatin1_aae02 14 = .ok (.goto 4, 3) := by decide +kernel
theorem dJ0_isLatin1_aae02_17 : decode cJ0_isLatin1_aae02 17 = .ok (.iconst 0, 1) := by decide +kernel
theorem dJ0_isLatin1_aae02_18 : decode cJ0_isLatin1_aae02 18 = .ok (.ireturn, 1) := by decide +kernel
theorem dJ0_checkIndex_df160_0 : decode cJ0_checkIndex_df160 0 = .ok (.iload_n 0, 1) := by decide +kernel
theorem dJ0_checkIndex_df160_1 : decode cJ0_checkIndex_df160 1 = .ok (.iload_n 1, 1) := by decide +kernel
theorem dJ0_checkIndex_df160_2 : decode cJ0_checkIndex_df160 2 = .ok (.getstatic 1053, 3) := by decide +kernel
theorem dJ0_checkIndex_df160_5 : decode cJ0_checkIndex_df160 5 = .ok (.invokestatic 1059, 3) := by decide +kernel
theorem dJ0_checkIndex_df160_8 : decode cJ0_checkIndex_df160 8 = .ok (.pop, 1) := by decide +kernel
theorem dJ0_checkIndex_df160_9 : decode cJ0_checkIndex_df160 9 = .ok (.return_, 1) := by decide +kernel
theorem dJ1_charAt_3b067_0 : decode cJ1_charAt_3b067 0 = .ok (.iload_n 1, 1) := by decide +kernel
theorem dJ1_charAt_3b067_1 : decode cJ1_charAt_3b067 1 = .ok (.aload_n 0, 1) := by decide +kernel
theorem dJ1_charAt_3b067_2 : decode cJ1_charAt_3b067 2 = .ok (.arraylength, 1) := by decide +kernel
theorem dJ1_charAt_3b067_3 : decode cJ1_charAt_3b067 3 = .ok (.invokestatic 9, 3) := by decide +kernel
theorem dJ1_charAt_3b067_6 : decode cJ1_charAt_3b067 6 = .ok (.aload_n 0, 1) := by decide +kernel
theorem dJ1_charAt_3b067_7 : decode cJ1_charAt_3b067 7 = .ok (.iload_n 1, 1) := by decide +kernel
theorem dJ1_charAt_3b067_8 : decode cJ1_charAt_3b067 8 = .ok (.baload, 1) := by decide +kernel
theorem dJ1_charAt_3b067_9 : decode cJ1_charAt_3b067 9 = .ok (.sipush 255, 3) := by decide +kernel
theorem dJ1_charAt_3b067_12 : decode cJ1_charAt_3b067 12 = .ok (.iand, 1) := by decide +kernel
theorem dJ1_charAt_3b067_13 : decode cJ1_charAt_3b067 13 = .ok (.i2c, 1) := by decide +kernel
theorem dJ1_charAt_3b067_14 : decode cJ1_charAt_3b067 14 = .ok (.ireturn, 1) := by decide +kernel
theorem dJ2_getChar_3b067_0 : decode cJ2_getChar_3b067 0 = .ok (.getstatic 44, 3) := by decide +kernel
theorem dJ2_getChar_3b067_3 : decode cJ2_getChar_3b067 3 = .ok (.ifCond .ne 25, 3) := by decide +kernel
theorem dJ2_getChar_3b067_6 : decode cJ2_getChar_3b067 6 = .ok (.iload_n 1, 1) := by decide +kernel
theorem dJ2_getChar_3b067_7 : decode cJ2_getChar_3b067 7 = .ok (.ifCond .lt 11, 3) := by decide +kernel
theorem dJ2_getChar_3b067_10 : decode cJ2_getChar_3b067 10 = .ok (.iload_n 1, 1) := by decide +kernel
theorem dJ2_getChar_3b067_11 : decode cJ2_getChar_3b067 11 = .ok (.aload_n 0, 1) := by decide +kernel
theorem dJ2_getChar_3b067_12 : decode cJ2_getChar_3b067 12 = .ok (.invokestatic 48, 3) := by decide +kernel
theorem dJ2_getChar_3b067_15 : decode cJ2_getChar_3b067 15 = .ok (.if_icmp .lt 13, 3) := by decide +kernel
theorem dJ2_getChar_3b067_18 : decode cJ2_getChar_3b067 18 = .ok (.new 52, 3) := by decide +kernel
theorem dJ2_getChar_3b067_21 : decode cJ2_getChar_3b067 21 = .ok (.dup, 1) := by decide +kernel
theorem dJ2_getChar_3b067_22 : decode cJ2_getChar_3b067 22 = .ok (.ldc 54, 2) := by decide +kernel
theorem dJ2_getChar_3b067_24 : decode cJ2_getChar_3b067 24 = .ok (.invokespecial 56, 3) := by decide +kernel
theorem dJ2_getChar_3b067_27 : decode cJ2_getChar_3b067 27 = .ok (.athrow, 1) := by decide +kernel
theorem dJ2_getChar_3b067_28 : decode cJ2_getChar_3b067 28 = .ok (.iload_n 1, 1) := by decide +kernel
theorem dJ2_getChar_3b067_29 : decode cJ2_getChar_3b067 29 = .ok (.iconst 1, 1) := by decide +kernel
theorem dJ2_getChar_3b067_30 : decode cJ2_getChar_3b067 30 = .ok (.ishl, 1) := by decide +kernel
theorem dJ2_getChar_3b067_31 : decode cJ2_getChar_3b067 31 = .ok (.istore_n 1, 1) := by decide +kernel
theorem dJ2_getChar_3b067_32 : decode cJ2_getChar_3b067 32 = .ok (.aload_n 0, 1) := by decide +kernel
theorem dJ2_getChar_3b067_33 : decode cJ2_getChar_3b067 33 = .ok (.iload_n 1, 1) := by decide +kernel
theorem dJ2_getChar_3b067_34 : decode cJ2_getChar_3b067 34 = .ok (.iinc 1 1, 3) := by decide +kernel
theorem dJ2_getChar_3b067_37 : decode cJ2_getChar_3b067 37 = .ok (.baload, 1) := by decide +kernel
theorem dJ2_getChar_3b067_38 : decode cJ2_getChar_3b067 38 = .ok (.sipush 255, 3) := by decide +kernel
theorem dJ2_getChar_3b067_41 : decode cJ2_getChar_3b067 41 = .ok (.iand, 1) := by decide +kernel
theorem dJ2_getChar_3b067_42 : decode cJ2_getChar_3b067 42 = .ok (.getstatic 59, 3) := by decide +kernel
theorem dJ2_getChar_3b067_45 : decode cJ2_getChar_3b067 45 = .ok (.ishl, 1) := by decide +kernel
theorem dJ2_getChar_3b067_46 : decode cJ2_getChar_3b067 46 = .ok (.aload_n 0, 1) := by decide +kernel
theorem dJ2_getChar_3b067_47 : decode cJ2_getChar_3b067 47 = .ok (.iload_n 1, 1) := by decide +kernel
theorem dJ2_getChar_3b067_48 : decode cJ2_getChar_3b067 48 = .ok (.baload, 1) := by decide +kernel
theorem dJ2_getChar_3b067_49 : decode cJ2_getChar_3b067 49 = .ok (.sipush 255, 3) := by decide +kernel
theorem dJ2_getChar_3b067_52 : decode cJ2_getChar_3b067 52 = .ok (.iand, 1) := by decide +kernel
theorem dJ2_getChar_3b067_53 : decode cJ2_getChar_3b067 53 = .ok (.getstatic 63, 3) := by decide +kernel
theorem dJ2_getChar_3b067_56 : decode cJ2_getChar_3b067 56 = .ok (.ishl, 1) := by decide +kernel
theorem dJ2_getChar_3b067_57 : decode cJ2_getChar_3b067 57 = .ok (.ior, 1) := by decide +kernel
theorem dJ2_getChar_3b067_58 : decode cJ2_getChar_3b067 58 = .ok (.i2c, 1) := by decide +kernel
theorem dJ2_getChar_3b067_59 : decode cJ2_getChar_3b067 59 = .ok (.ireturn, 1) := by decide +kernel
theorem dJ2_length_9d52b_0 : decode cJ2_length_9d52b 0 = .ok (.aload_n 0, 1) := by decide +kernel
theorem dJ2_length_9d52b_1 : decode cJ2_length_9d52b 1 = .ok (.arraylength, 1) := by decide +kernel
theorem dJ2_length_9d52b_2 : decode cJ2_length_9d52b 2 = .ok (.iconst 1, 1) := by decide +kernel
theorem dJ2_length_9d52b_3 : decode cJ2_length_9d52b 3 = .ok (.ishr, 1) := by decide +kernel
theorem dJ2_length_9d52b_4 : decode cJ2_length_9d52b 4 = .ok (.ireturn, 1) := by decide +kernel
theorem dJ2_charAt_3b067_0 : decode cJ2_charAt_3b067 0 = .ok (.iload_n 1, 1) := by decide +kernel
theorem dJ2_charAt_3b067_1 : decode cJ2_charAt_3b067 1 = .ok (.aload_n 0, 1) := by decide +kernel
theorem dJ2_charAt_3b067_2 : decode cJ2_charAt_3b067 2 = .ok (.invokestatic 67, 3) := by decide +kernel
theorem dJ2_charAt_3b067_5 : decode cJ2_charAt_3b067 5 = .ok (.aload_n 0, 1) := by decide +kernel
theorem dJ2_charAt_3b067_6 : decode cJ2_charAt_3b067 6 = .ok (.iload_n 1, 1) := by decide +kernel
theorem dJ2_charAt_3b067_7 : decode cJ2_charAt_3b067 7 = .ok (.invokestatic 71, 3) := by decide +kernel
theorem dJ2_charAt_3b067_10 : decode cJ2_charAt_3b067 10 = .ok (.ireturn, 1) := by decide +kernel
theorem dJ2_checkIndex_2214a_0 : decode cJ2_checkIndex_2214a 0 = .ok (.iload_n 0, 1) := by decide +kernel
theorem dJ2_checkIndex_2214a_1 : decode cJ2_checkIndex_2214a 1 = .ok (.aload_n 1, 1) := by decide +kernel
theorem dJ2_checkIndex_2214a_2 : decode cJ2_checkIndex_2214a 2 = .ok (.invokestatic 48, 3) := by decide +kernel
theorem dJ2_checkIndex_2214a_5 : decode cJ2_checkIndex_2214a 5 = .ok (.invokestatic 414, 3) := by decide +kernel
theorem dJ2_checkIndex_2214a_8 : decode cJ2_checkIndex_2214a 8 = .ok (.return_, 1) := by decide +kernel
theorem dJ3_checkIndex_8e157_0 : decode cJ3_checkIndex_8e157 0 = .ok (.iload_n 0, 1) := by decide +kernel
theorem dJ3_checkIndex_8e157_1 : decode cJ3_checkIndex_8e157 1 = .ok (.ifCond .lt 8, 3) := by decide +kernel
theorem dJ3_checkIndex_8e157_4 : decode cJ3_checkIndex_8e157 4 = .ok (.iload_n 0, 1) := by decide +kernel
theorem dJ3_checkIndex_8e157_5 : decode cJ3_checkIndex_8e157 5 = .ok (.iload_n 1, 1) := by decide +kernel
theorem dJ3_checkIndex_8e157_6 : decode cJ3_checkIndex_8e157 6 = .ok (.if_icmp .lt 10, 3) := by decide +kernel
theorem dJ3_checkIndex_8e157_9 : decode cJ3_checkIndex_8e157 9 = .ok (.aload_n 2, 1) := by decide +kernel
theorem dJ3_checkIndex_8e157_10 : decode cJ3_checkIndex_8e157 10 = .ok (.iload_n 0, 1) := by decide +kernel
theorem dJ3_checkIndex_8e157_11 : decode cJ3_checkIndex_8e157 11 = .ok (.iload_n 1, 1) := by decide +kernel
theorem dJ3_checkIndex_8e157_12 : decode cJ3_checkIndex_8e157 12 = .ok (.invokestatic 95, 3) := by decide +kernel
theorem dJ3_checkIndex_8e157_15 : decode cJ3_checkIndex_8e157 15 = .ok (.athrow, 1) := by decide +kernel
theorem dJ3_checkIndex_8e157_16 : decode cJ3_checkIndex_8e157 16 = .ok (.iload_n 0, 1) := by decide +kernel
theorem dJ3_checkIndex_8e157_17 : decode cJ3_checkIndex_8e157 17 = .ok (.ireturn, 1) := by decide +kernel
