theorem dX3_init_0 : decode cX3_init 0 = .ok (.aload_n 0, 1) := by decide +kernel
theorem dX3_init_1 : decode cX3_init 1 = .ok (.invokespecial 3, 3) := by decide +kernel
theorem dX3_init_4 : decode cX3_init 4 = .ok (.aload_n 0, 1) := by decide +kernel
theorem dX3_init_5 : decode cX3_init 5 = .ok (.bipush 6, 2) := by decide +kernel
theorem dX3_init_7 : decode cX3_init 7 = .ok (.newarray .int, 2) := by decide +kernel
theorem dX3_init_9 : decode cX3_init 9 = .ok (.putfield 9, 3) := by decide +kernel
theorem dX3_init_12 : decode cX3_init 12 = .ok (.aload_n 0, 1) := by decide +kernel
theorem dX3_init_13 : decode cX3_init 13 = .ok (.bipush 12, 2) := by decide +kernel
theorem dX3_init_15 : decode cX3_init 15 = .ok (.newarray .int, 2) := by decide +kernel
theorem dX3_init_17 : decode cX3_init 17 = .ok (.putfield 15, 3) := by decide +kernel
theorem dX3_init_20 : decode cX3_init 20 = .ok (.aload_n 0, 1) := by decide +kernel
theorem dX3_init_21 : decode cX3_init 21 = .ok (.bipush 7, 2) := by decide +kernel
theorem dX3_init_23 : decode cX3_init 23 = .ok (.newarray .int, 2) := by decide +kernel
theorem dX3_init_25 : decode cX3_init 25 = .ok (.putfield 18, 3) := by decide +kernel
theorem dX3_init_28 : decode cX3_init 28 = .ok (.aload_n 0, 1) := by decide +kernel
theorem dX3_init_29 : decode cX3_init 29 = .ok (.bipush 7, 2) := by decide +kernel
theorem dX3_init_31 : decode cX3_init 31 = .ok (.newarray .int, 2) := by decide +kernel
theorem dX3_init_33 : decode cX3_init 33 = .ok (.putfield 21, 3) := by decide +kernel
theorem dX3_init_36 : decode cX3_init 36 = .ok (.aload_n 0, 1) := by decide +kernel
theorem dX3_init_37 : decode cX3_init 37 = .ok (.iconst 0, 1) := by decide +kernel
theorem dX3_init_38 : decode cX3_init 38 = .ok (.putfield 24, 3) := by decide +kernel
theorem dX3_init_41 : decode cX3_init 41 = .ok (.return_, 1) := by decide +kernel
theorem dX3_size_0 : decode cX3_size 0 = .ok (.aload_n 0, 1) := by decide +kernel
theorem dX3_size_1 : decode cX3_size 1 = .ok (.getfield 24, 3) := by decide +kernel
theorem dX3_size_4 : decode cX3_size 4 = .ok (.ireturn, 1) := by decide +kernel
theorem dX3_has_0 : decode cX3_has 0 = .ok (.iload_n 1, 1) := by decide +kernel
theorem dX3_has_1 : decode cX3_has 1 = .ok (.ifCond .lt 15, 3) := by decide +kernel
theorem dX3_has_4 : decode cX3_has 4 = .ok (.iload_n 1, 1) := by decide +kernel
theorem dX3_has_5 : decode cX3_has 5 = .ok (.aload_n 0, 1) := by decide +kernel
theorem dX3_has_6 : decode cX3_has 6 = .ok (.getfield 24, 3) := by decide +kernel
theorem dX3_has_9 : decode cX3_has 9 = .ok (.if_icmp .ge 7, 3) := by decide +kernel
theorem dX3_has_12 : decode cX3_has 12 = .ok (.iconst 1, 1) := by decide +kernel
theorem dX3_has_13 : decode cX3_has 13 = .ok (.goto 4, 3) := by decide +kernel
theorem dX3_has_16 : decode cX3_has 16 = .ok (.iconst 0, 1) := by decide +kernel
theorem dX3_has_17 : decode cX3_has 17 = .ok (.ireturn, 1) := by decide +kernel
theorem dX3_readFrom_0 : decode cX3_readFrom 0 = .ok (.aload_n 0, 1) := by decide +kernel
theorem dX3_readFrom_1 : decode cX3_readFrom 1 = .ok (.aload_n 1, 1) := by decide +kernel
theorem dX3_readFrom_2 : decode cX3_readFrom 2 = .ok (.invokevirtual 28, 3) := by decide +kernel
theorem dX3_readFrom_5 : decode cX3_readFrom 5 = .ok (.bipush 6, 2) := by decide +kernel
theorem dX3_readFrom_7 : decode cX3_readFrom 7 = .ok (.invokestatic 34, 3) := by decide +kernel
theorem dX3_readFrom_10 : decode cX3_readFrom 10 = .ok (.putfield 24, 3) := by decide +kernel
theorem dX3_readFrom_13 : decode cX3_readFrom 13 = .ok (.iconst 0, 1) := by decide +kernel
theorem dX3_readFrom_14 : decode cX3_readFrom 14 = .ok (.istore_n 2, 1) := by decide +kernel
theorem dX3_readFrom_15 : decode cX3_readFrom 15 = .ok (.iload_n 2, 1) := by decide +kernel
theorem dX3_readFrom_16 : decode cX3_readFrom 16 = .ok (.aload_n 0, 1) := by decide +kernel
theorem dX3_readFrom_17 : decode cX3_readFrom 17 = .ok (.getfield 24, 3) := by decide +kernel
theorem dX3_readFrom_20 : decode cX3_readFrom 20 = .ok (.if_icmp .ge 43, 3) := by decide +kernel
theorem dX3_readFrom_23 : decode cX3_readFrom 23 = .ok (.aload_n 0, 1) := by decide +kernel
theorem dX3_readFrom_24 : decode cX3_readFrom 24 = .ok (.iload_n 2, 1) := by decide +kernel
theorem dX3_readFrom_25 : decode cX3_readFrom 25 = .ok (.aload_n 1, 1) := by decide +kernel
theorem dX3_readFrom_26 : decode cX3_readFrom 26 = .ok (.iload_n 2, 1) := by decide +kernel
theorem dX3_readFrom_27 : decode cX3_readFrom 27 = .ok (.invokevirtual 40, 3) := by decide +kernel
theorem dX3_readFrom_30 : decode cX3_readFrom 30 = .ok (.invokevirtual 44, 3) := by decide +kernel
theorem dX3_readFrom_33 : decode cX3_readFrom 33 = .ok (.aload_n 0, 1) := by decide +kernel
theorem dX3_readFrom_34 : decode cX3_readFrom 34 = .ok (.iload_n 2, 1) := by decide +kernel
theorem dX3_readFrom_35 : decode cX3_readFrom 35 = .ok (.iconst 0, 1) := by decide +kernel
theorem dX3_readFrom_36 : decode cX3_readFrom 36 = .ok (.aload_n 1, 1) := by decide +kernel
theorem dX3_readFrom_37 : decode cX3_readFrom 37 = .ok (.iload_n 2, 1) := by decide +kernel
theorem dX3_readFrom_38 : decode cX3_readFrom 38 = .ok (.iconst 0, 1) := by decide +kernel
theorem dX3_readFrom_39 : decode cX3_readFrom 39 = .ok (.invokevirtual 48, 3) := by decide +kernel
theorem dX3_readFrom_42 : decode cX3_readFrom 42 = .ok (.invokevirtual 51, 3) := by decide +kernel
theorem dX3_readFrom_45 : decode cX3_readFrom 45 = .ok (.aload_n 0, 1) := by decide +kernel
theorem dX3_readFrom_46 : decode cX3_readFrom 46 = .ok (.iload_n 2, 1) := by decide +kernel
theorem dX3_readFrom_47 : decode cX3_readFrom 47 = .ok (.iconst 1, 1) := by decide +kernel
theorem dX3_readFrom_48 : decode cX3_readFrom 48 = .ok (.aload_n 1, 1) := by decide +kernel
theorem dX3_readFrom_49 : decode cX3_readFrom 49 = .ok (.iload_n 2, 1) := by decide +kernel
theorem dX3_readFrom_50 : decode cX3_readFrom 50 = .ok (.iconst 1, 1) := by decide +kernel
theorem dX3_readFrom_51 : decode cX3_readFrom 51 = .ok (.invokevirtual 48, 3) := by decide +kernel
theorem dX3_readFrom_54 : decode cX3_readFrom 54 = .ok (.invokevirtual 51, 3) := by decide +kernel
theorem dX3_readFrom_57 : decode cX3_readFrom 57 = .ok (.iinc 2 1, 3) := by decide +kernel
theorem dX3_readFrom_60 : decode cX3_readFrom 60 = .ok (.goto (-45), 3) := by decide +kernel
theorem dX3_readFrom_63 : decode cX3_readFrom 63 = .ok (.return_, 1) := by decide +kernel
theorem dX3_copyFrom_0 : decode cX3_copyFrom 0 = .ok (.aload_n 0, 1) := by decide +kernel
theorem dX3_copyFrom_1 : decode cX3_copyFrom 1 = .ok (.aload_n 1, 1) := by decide +kernel
theorem dX3_copyFrom_2 : decode cX3_copyFrom 2 = .ok (.getfield 24, 3) := by decide +kernel
theorem dX3_copyFrom_5 : decode cX3_copyFrom 5 = .ok (.putfield 24, 3) := by decide +kernel
theorem dX3_copyFrom_8 : decode cX3_copyFrom 8 = .ok (.aload_n 1, 1) := by decide +kernel
theorem dX3_copyFrom_9 : decode cX3_copyFrom 9 = .ok (.getfield 9, 3) := by decide +kernel
theorem dX3_copyFrom_12 : decode cX3_copyFrom 12 = .ok (.iconst 0, 1) := by decide +kernel
theorem dX3_copyFrom_13 : decode cX3_copyFrom 13 = .ok (.aload_n 0, 1) := by decide +kernel
theorem dX3_copyFrom_14 : decode cX3_copyFrom 14 = .ok (.getfield 9, 3) := by decide +kernel
theorem dX3_copyFrom_17 : decode cX3_copyFrom 17 = .ok (.iconst 0, 1) := by decide +kernel
theorem dX3_copyFrom_18 : decode cX3_copyFrom 18 = .ok (.bipush 6, 2) := by decide +kernel
theorem dX3_copyFrom_20 : decode cX3_copyFrom 20 = .ok (.invokestatic 55, 3) := by decide +kernel
theorem dX3_copyFrom_23 : decode cX3_copyFrom 23 = .ok (.aload_n 1, 1) := by decide +kernel
theorem dX3_copyFrom_24 : decode cX3_copyFrom 24 = .ok (.getfield 15, 3) := by decide +kernel
theorem dX3_copyFrom_27 : decode cX3_copyFrom 27 = .ok (.iconst 0, 1) := by decide +kernel
theorem dX3_copyFrom_28 : decode cX3_copyFrom 28 = .ok (.aload_n 0, 1) := by decide +kernel
theorem dX3_copyFrom_29 : decode cX3_copyFrom 29 = .ok (.getfield 15, 3) := by decide +kernel
theorem dX3_copyFrom_32 : decode cX3_copyFrom 32 = .ok (.iconst 0, 1) := by decide +kernel
theorem dX3_copyFrom_33 : decode cX3_copyFrom 33 = .ok (.bipush 12, 2) := by decide +kernel
theorem dX3_copyFrom_35 : decode cX3_copyFrom 35 = .ok (.invokestatic 55, 3) := by decide +kernel
theorem dX3_copyFrom_38 : decode cX3_copyFrom 38 = .ok (.return_, 1) := by decide +kernel
theorem dX3_kindOf_0 : decode cX3_kindOf 0 = .ok (.aload_n 0, 1) := by decide +kernel
theorem dX3_kindOf_1 : decode cX3_kindOf 1 = .ok (.iload_n 1, 1) := by decide +kernel
theorem dX3_kindOf_2 : decode cX3_kindOf 2 = .ok (.invokevirtual 61, 3) := by decide +kernel
theorem dX3_kindOf_5 : decode cX3_kindOf 5 = .ok (.ifCond .eq 12, 3) := by decide +kernel
theorem dX3_kindOf_8 : decode cX3_kindOf 8 = .ok (.aload_n 0, 1) := by decide +kernel
theorem dX3_kindOf_9 : decode cX3_kindOf 9 = .ok (.getfield 9, 3) := by decide +kernel
theorem dX3_kindOf_12 : decode cX3_kindOf 12 = .ok (.iload_n 1, 1) := by decide +kernel
theorem dX3_kindOf_13 : decode cX3_kindOf 13 = .ok (.iaload, 1) := by decide +kernel
theorem dX3_kindOf_14 : decode cX3_kindOf 14 = .ok (.goto 4, 3) := by decide +kernel
theorem dX3_kindOf_17 : decode cX3_kindOf 17 = .ok (.iconst (-1), 1) := by decide +kernel
theorem dX3_kindOf_18 : decode cX3_kindOf 18 = .ok (.ireturn, 1) := by decide +kernel
theorem dX3_setKind_0 : decode cX3_setKind 0 = .ok (.aload_n 0, 1) := by decide +kernel
theorem dX3_setKind_1 : decode cX3_setKind 1 = .ok (.iload_n 1, 1) := by decide +kernel
theorem dX3_setKind_2 : decode cX3_setKind 2 = .ok (.invokevirtual 61, 3) := by decide +kernel
theorem dX3_setKind_5 : decode cX3_setKind 5 = .ok (.ifCond .eq 10, 3) := by decide +kernel
theorem dX3_setKind_8 : decode cX3_setKind 8 = .ok (.aload_n 0, 1) := by decide +kernel
theorem dX3_setKind_9 : decode cX3_setKind 9 = .ok (.getfield 9, 3) := by decide +kernel
theorem dX3_setKind_12 : decode cX3_setKind 12 = .ok (.iload_n 1, 1) := by decide +kernel
theorem dX3_setKind_13 : decode cX3_setKind 13 = .ok (.iload_n 2, 1) := by decide +kernel
theorem dX3_setKind_14 : decode cX3_setKind 14 = .ok (.iastore, 1) := by decide +kernel
theorem dX3_setKind_15 : decode cX3_setKind 15 = .ok (.return_, 1) := by decide +kernel
theorem dX3_toldNext_0 : decode cX3_toldNext 0 = .ok (.aload_n 0, 1) := by decide +kernel
theorem dX3_toldNext_1 : decode cX3_toldNext 1 = .ok (.iload_n 1, 1) := by decide +kernel
theorem dX3_toldNext_2 : decode cX3_toldNext 2 = .ok (.invokevirtual 61, 3) := by decide +kernel
theorem dX3_toldNext_5 : decode cX3_toldNext 5 = .ok (.ifCond .eq 23, 3) := by decide +kernel
theorem dX3_toldNext_8 : decode cX3_toldNext 8 = .ok (.iload_n 2, 1) := by decide +kernel
theorem dX3_toldNext_9 : decode cX3_toldNext 9 = .ok (.invokestatic 65, 3) := by decide +kernel
theorem dX3_toldNext_12 : decode cX3_toldNext 12 = .ok (.ifCond .eq 16, 3) := by decide +kernel
theorem dX3_toldNext_15 : decode cX3_toldNext 15 = .ok (.aload_n 0, 1) := by decide +kernel
theorem dX3_toldNext_16 : decode cX3_toldNext 16 = .ok (.getfield 15, 3) := by decide +kernel
theorem dX3_toldNext_19 : decode cX3_toldNext 19 = .ok (.iconst 2, 1) := by decide +kernel
theorem dX3_toldNext_20 : decode cX3_toldNext 20 = .ok (.iload_n 1, 1) := by decide +kernel
theorem dX3_toldNext_21 : decode cX3_toldNext 21 = .ok (.imul, 1) := by decide +kernel
theorem dX3_toldNext_22 : decode cX3_toldNext 22 = .ok (.iload_n 2, 1) := by decide +kernel
theorem dX3_toldNext_23 : decode cX3_toldNext 23 = .ok (.iadd, 1) := by decide +kernel
theorem dX3_toldNext_24 : decode cX3_toldNext 24 = .ok (.iaload, 1) := by decide +kernel
theorem dX3_toldNext_25 : decode cX3_toldNext 25 = .ok (.goto 4, 3) := by decide +kernel
theorem dX3_toldNext_28 : decode cX3_toldNext 28 = .ok (.iconst (-1), 1) := by decide +kernel
theorem dX3_toldNext_29 : decode cX3_toldNext 29 = .ok (.ireturn, 1) := by decide +kernel
theorem dX3_setNext_0 : decode cX3_setNext 0 = .ok (.aload_n 0, 1) := by decide +kernel
theorem dX3_setNext_1 : decode cX3_setNext 1 = .ok (.iload_n 1, 1) := by decide +kernel
theorem dX3_setNext_2 : decode cX3_setNext 2 = .ok (.invokevirtual 61, 3) := by decide +kernel
theorem dX3_setNext_5 : decode cX3_setNext 5 = .ok (.ifCond .eq 21, 3) := by decide +kernel
theorem dX3_setNext_8 : decode cX3_setNext 8 = .ok (.iload_n 2, 1) := by decide +kernel
theorem dX3_setNext_9 : decode cX3_setNext 9 = .ok (.invokestatic 65, 3) := by decide +kernel
theorem dX3_setNext_12 : decode cX3_setNext 12 = .ok (.ifCond .eq 14, 3) := by decide +kernel
theorem dX3_setNext_15 : decode cX3_setNext 15 = .ok (.aload_n 0, 1) := by decide +kernel
theorem dX3_setNext_16 : decode cX3_setNext 16 = .ok (.getfield 15, 3) := by decide +kernel
theorem dX3_setNext_19 : decode cX3_setNext 19 = .ok (.iconst 2, 1) := by decide +kernel
theorem dX3_setNext_20 : decode cX3_setNext 20 = .ok (.iload_n 1, 1) := by decide +kernel
theorem dX3_setNext_21 : decode cX3_setNext 21 = .ok (.imul, 1) := by decide +kernel
theorem dX3_setNext_22 : decode cX3_setNext 22 = .ok (.iload_n 2, 1) := by decide +kernel
theorem dX3_setNext_23 : decode cX3_setNext 23 = .ok (.iadd, 1) := by decide +kernel
theorem dX3_setNext_24 : decode cX3_setNext 24 = .ok (.iload_n 3, 1) := by decide +kernel
theorem dX3_setNext_25 : decode cX3_setNext 25 = .ok (.iastore, 1) := by decide +kernel
theorem dX3_setNext_26 : decode cX3_setNext 26 = .ok (.return_, 1) := by decide +kernel
theorem dX3_flipsFirst_0 : decode cX3_flipsFirst 0 = .ok (.iload_n 1, 1) := by decide +kernel
theorem dX3_flipsFirst_1 : decode cX3_flipsFirst 1 = .ok (.ifCond .lt 11, 3) := by decide +kernel
theorem dX3_flipsFirst_4 : decode cX3_flipsFirst 4 = .ok (.iload_n 1, 1) := by decide +kernel
theorem dX3_flipsFirst_5 : decode cX3_flipsFirst 5 = .ok (.aload_n 0, 1) := by decide +kernel
theorem dX3_flipsFirst_6 : decode cX3_flipsFirst 6 = .ok (.getfield 24, 3) := by decide +kernel
theorem dX3_flipsFirst_9 : decode cX3_flipsFirst 9 = .ok (.if_icmp .lt 5, 3) := by decide +kernel
theorem dX3_flipsFirst_12 : decode cX3_flipsFirst 12 = .ok (.iconst 0, 1) := by decide +kernel
theorem dX3_flipsFirst_13 : decode cX3_flipsFirst 13 = .ok (.ireturn, 1) := by decide +kernel
theorem dX3_flipsFirst_14 : decode cX3_flipsFirst 14 = .ok (.aload_n 0, 1) := by decide +kernel
theorem dX3_flipsFirst_15 : decode cX3_flipsFirst 15 = .ok (.getfield 9, 3) := by decide +kernel
theorem dX3_flipsFirst_18 : decode cX3_flipsFirst 18 = .ok (.iload_n 1, 1) := by decide +kernel
theorem dX3_flipsFirst_19 : decode cX3_flipsFirst 19 = .ok (.iaload, 1) := by decide +kernel
theorem dX3_flipsFirst_20 : decode cX3_flipsFirst 20 = .ok (.istore_n 2, 1) := by decide +kernel
theorem dX3_flipsFirst_21 : decode cX3_flipsFirst 21 = .ok (.iload_n 2, 1) := by decide +kernel
theorem dX3_flipsFirst_22 : decode cX3_flipsFirst 22 = .ok (.iconst 1, 1) := by decide +kernel
theorem dX3_flipsFirst_23 : decode cX3_flipsFirst 23 = .ok (.if_icmp .eq 13, 3) := by decide +kernel
theorem dX3_flipsFirst_26 : decode cX3_flipsFirst 26 = .ok (.iload_n 2, 1) := by decide +kernel
theorem dX3_flipsFirst_27 : decode cX3_flipsFirst 27 = .ok (.iconst 2, 1) := by decide +kernel
theorem dX3_flipsFirst_28 : decode cX3_flipsFirst 28 = .ok (.if_icmp .eq 8, 3) := by decide +kernel
theorem dX3_flipsFirst_31 : decode cX3_flipsFirst 31 = .ok (.iload_n 2, 1) := by decide +kernel
theorem dX3_flipsFirst_32 : decode cX3_flipsFirst 32 = .ok (.iconst 4, 1) := by decide +kernel
theorem dX3_flipsFirst_33 : decode cX3_flipsFirst 33 = .ok (.if_icmp .ne 7, 3) := by decide +kernel
theorem dX3_flipsFirst_36 : decode cX3_flipsFirst 36 = .ok (.iconst 1, 1) := by decide +kernel
theorem dX3_flipsFirst_37 : decode cX3_flipsFirst 37 = .ok (.goto 4, 3) := by decide +kernel
theorem dX3_flipsFirst_40 : decode cX3_flipsFirst 40 = .ok (.iconst 0, 1) := by decide +kernel
theorem dX3_flipsFirst_41 : decode cX3_flipsFirst 41 = .ok (.ireturn, 1) := by decide +kernel
theorem dX3_goesOn_0 : decode cX3_goesOn 0 = .ok (.iload_n 1, 1) := by decide +kernel
theorem dX3_goesOn_1 : decode cX3_goesOn 1 = .ok (.ifCond .lt 20, 3) := by decide +kernel
theorem dX3_goesOn_4 : decode cX3_goesOn 4 = .ok (.iload_n 1, 1) := by decide +kernel
theorem dX3_goesOn_5 : decode cX3_goesOn 5 = .ok (.aload_n 0, 1) := by decide +kernel
theorem dX3_goesOn_6 : decode cX3_goesOn 6 = .ok (.getfield 24, 3) := by decide +kernel
theorem dX3_goesOn_9 : decode cX3_goesOn 9 = .ok (.if_icmp .ge 12, 3) := by decide +kernel
theorem dX3_goesOn_12 : decode cX3_goesOn 12 = .ok (.iload_n 2, 1) := by decide +kernel
theorem dX3_goesOn_13 : decode cX3_goesOn 13 = .ok (.ifCond .lt 8, 3) := by decide +kernel
theorem dX3_goesOn_16 : decode cX3_goesOn 16 = .ok (.iload_n 2, 1) := by decide +kernel
theorem dX3_goesOn_17 : decode cX3_goesOn 17 = .ok (.iconst 1, 1) := by decide +kernel
theorem dX3_goesOn_18 : decode cX3_goesOn 18 = .ok (.if_icmp .le 5, 3) := by decide +kernel
theorem dX3_goesOn_21 : decode cX3_goesOn 21 = .ok (.iconst (-1), 1) := by decide +kernel
theorem dX3_goesOn_22 : decode cX3_goesOn 22 = .ok (.ireturn, 1) := by decide +kernel
theorem dX3_goesOn_23 : decode cX3_goesOn 23 = .ok (.aload_n 0, 1) := by decide +kernel
theorem dX3_goesOn_24 : decode cX3_goesOn 24 = .ok (.getfield 9, 3) := by decide +kernel
theorem dX3_goesOn_27 : decode cX3_goesOn 27 = .ok (.iload_n 1, 1) := by decide +kernel
theorem dX3_goesOn_28 : decode cX3_goesOn 28 = .ok (.iaload, 1) := by decide +kernel
theorem dX3_goesOn_29 : decode cX3_goesOn 29 = .ok (.istore_n 3, 1) := by decide +kernel
theorem dX3_goesOn_30 : decode cX3_goesOn 30 = .ok (.iload_n 3, 1) := by decide +kernel
theorem dX3_goesOn_31 : decode cX3_goesOn 31 = .ok (.iconst 3, 1) := by decide +kernel
theorem dX3_goesOn_32 : decode cX3_goesOn 32 = .ok (.if_icmp .eq 8, 3) := by decide +kernel
theorem dX3_goesOn_35 : decode cX3_goesOn 35 = .ok (.iload_n 3, 1) := by decide +kernel
theorem dX3_goesOn_36 : decode cX3_goesOn 36 = .ok (.iconst 4, 1) := by decide +kernel
theorem dX3_goesOn_37 : decode cX3_goesOn 37 = .ok (.if_icmp .ne 5, 3) := by decide +kernel
theorem dX3_goesOn_40 : decode cX3_goesOn 40 = .ok (.iconst (-1), 1) := by decide +kernel
theorem dX3_goesOn_41 : decode cX3_goesOn 41 = .ok (.ireturn, 1) := by decide +kernel
theorem dX3_goesOn_42 : decode cX3_goesOn 42 = .ok (.aload_n 0, 1) := by decide +kernel
theorem dX3_goesOn_43 : decode cX3_goesOn 43 = .ok (.getfield 15, 3) := by decide +kernel
theorem dX3_goesOn_46 : decode cX3_goesOn 46 = .ok (.iconst 2, 1) := by decide +kernel
theorem dX3_goesOn_47 : decode cX3_goesOn 47 = .ok (.iload_n 1, 1) := by decide +kernel
theorem dX3_goesOn_48 : decode cX3_goesOn 48 = .ok (.imul, 1) := by decide +kernel
theorem dX3_goesOn_49 : decode cX3_goesOn 49 = .ok (.iload_n 3, 1) := by decide +kernel
theorem dX3_goesOn_50 : decode cX3_goesOn 50 = .ok (.iconst 2, 1) := by decide +kernel
theorem dX3_goesOn_51 : decode cX3_goesOn 51 = .ok (.if_icmp .ne 9, 3) := by decide +kernel
theorem dX3_goesOn_54 : decode cX3_goesOn 54 = .ok (.iconst 1, 1) := by decide +kernel
theorem dX3_goesOn_55 : decode cX3_goesOn 55 = .ok (.iload_n 2, 1) := by decide +kernel
theorem dX3_goesOn_56 : decode cX3_goesOn 56 = .ok (.isub, 1) := by decide +kernel
theorem dX3_goesOn_57 : decode cX3_goesOn 57 = .ok (.goto 4, 3) := by decide +kernel
theorem dX3_goesOn_60 : decode cX3_goesOn 60 = .ok (.iload_n 2, 1) := by decide +kernel
theorem dX3_goesOn_61 : decode cX3_goesOn 61 = .ok (.iadd, 1) := by decide +kernel
theorem dX3_goesOn_62 : decode cX3_goesOn 62 = .ok (.iaload, 1) := by decide +kernel
theorem dX3_goesOn_63 : decode cX3_goesOn 63 = .ok (.ireturn, 1) := by decide +kernel
theorem dX3_reachOf_0 : decode cX3_reachOf 0 = .ok (.aload_n 0, 1) := by decide +kernel
theorem dX3_reachOf_1 : decode cX3_reachOf 1 = .ok (.iload_n 1, 1) := by decide +kernel
theorem dX3_reachOf_2 : decode cX3_reachOf 2 = .ok (.invokevirtual 68, 3) := by decide +kernel
theorem dX3_reachOf_5 : decode cX3_reachOf 5 = .ok (.istore_n 2, 1) := by decide +kernel
theorem dX3_reachOf_6 : decode cX3_reachOf 6 = .ok (.iconst 0, 1) := by decide +kernel
theorem dX3_reachOf_7 : decode cX3_reachOf 7 = .ok (.istore_n 3, 1) := by decide +kernel
theorem dX3_reachOf_8 : decode cX3_reachOf 8 = .ok (.iload_n 3, 1) := by decide +kernel
theorem dX3_reachOf_9 : decode cX3_reachOf 9 = .ok (.bipush 6, 2) := by decide +kernel
theorem dX3_reachOf_11 : decode cX3_reachOf 11 = .ok (.if_icmp .ge 46, 3) := by decide +kernel
theorem dX3_reachOf_14 : decode cX3_reachOf 14 = .ok (.iconst 0, 1) := by decide +kernel
theorem dX3_reachOf_15 : decode cX3_reachOf 15 = .ok (.istore 4, 2) := by decide +kernel
theorem dX3_reachOf_17 : decode cX3_reachOf 17 = .ok (.iload 4, 2) := by decide +kernel
theorem dX3_reachOf_19 : decode cX3_reachOf 19 = .ok (.aload_n 0, 1) := by decide +kernel
theorem dX3_reachOf_20 : decode cX3_reachOf 20 = .ok (.getfield 24, 3) := by decide +kernel
theorem dX3_reachOf_23 : decode cX3_reachOf 23 = .ok (.if_icmp .ge 28, 3) := by decide +kernel
theorem dX3_reachOf_26 : decode cX3_reachOf 26 = .ok (.iload_n 2, 1) := by decide +kernel
theorem dX3_reachOf_27 : decode cX3_reachOf 27 = .ok (.iload 4, 2) := by decide +kernel
theorem dX3_reachOf_29 : decode cX3_reachOf 29 = .ok (.ishr, 1) := by decide +kernel
theorem dX3_reachOf_30 : decode cX3_reachOf 30 = .ok (.iconst 1, 1) := by decide +kernel
theorem dX3_reachOf_31 : decode cX3_reachOf 31 = .ok (.iand, 1) := by decide +kernel
theorem dX3_reachOf_32 : decode cX3_reachOf 32 = .ok (.iconst 1, 1) := by decide +kernel
theorem dX3_reachOf_33 : decode cX3_reachOf 33 = .ok (.if_icmp .ne 12, 3) := by decide +kernel
theorem dX3_reachOf_36 : decode cX3_reachOf 36 = .ok (.iload_n 2, 1) := by decide +kernel
theorem dX3_reachOf_37 : decode cX3_reachOf 37 = .ok (.aload_n 0, 1) := by decide +kernel
theorem dX3_reachOf_38 : decode cX3_reachOf 38 = .ok (.iload 4, 2) := by decide +kernel
theorem dX3_reachOf_40 : decode cX3_reachOf 40 = .ok (.invokevirtual 68, 3) := by decide +kernel
theorem dX3_reachOf_43 : decode cX3_reachOf 43 = .ok (.ior, 1) := by decide +kernel
theorem dX3_reachOf_44 : decode cX3_reachOf 44 = .ok (.istore_n 2, 1) := by decide +kernel
theorem dX3_reachOf_45 : decode cX3_reachOf 45 = .ok (.iinc 4 1, 3) := by decide +kernel
theorem dX3_reachOf_48 : decode cX3_reachOf 48 = .ok (.goto (-31), 3) := by decide +kernel
theorem dX3_reachOf_51 : decode cX3_reachOf 51 = .ok (.iinc 3 1, 3) := by decide +kernel
theorem dX3_reachOf_54 : decode cX3_reachOf 54 = .ok (.goto (-46), 3) := by decide +kernel
theorem dX3_reachOf_57 : decode cX3_reachOf 57 = .ok (.iload_n 2, 1) := by decide +kernel
theorem dX3_reachOf_58 : decode cX3_reachOf 58 = .ok (.ireturn, 1) := by decide +kernel
theorem dX3_nextsOf_0 : decode cX3_nextsOf 0 = .ok (.iconst 0, 1) := by decide +kernel
theorem dX3_nextsOf_1 : decode cX3_nextsOf 1 = .ok (.istore_n 2, 1) := by decide +kernel
theorem dX3_nextsOf_2 : decode cX3_nextsOf 2 = .ok (.iconst 0, 1) := by decide +kernel
theorem dX3_nextsOf_3 : decode cX3_nextsOf 3 = .ok (.istore_n 3, 1) := by decide +kernel
theorem dX3_nextsOf_4 : decode cX3_nextsOf 4 = .ok (.iload_n 3, 1) := by decide +kernel
theorem dX3_nextsOf_5 : decode cX3_nextsOf 5 = .ok (.iconst 1, 1) := by decide +kernel
theorem dX3_nextsOf_6 : decode cX3_nextsOf 6 = .ok (.if_icmp .gt 37, 3) := by decide +kernel
theorem dX3_nextsOf_9 : decode cX3_nextsOf 9 = .ok (.aload_n 0, 1) := by decide +kernel
theorem dX3_nextsOf_10 : decode cX3_nextsOf 10 = .ok (.iload_n 1, 1) := by decide +kernel
theorem dX3_nextsOf_11 : decode cX3_nextsOf 11 = .ok (.iload_n 3, 1) := by decide +kernel
theorem dX3_nextsOf_12 : decode cX3_nextsOf 12 = .ok (.invokevirtual 71, 3) := by decide +kernel
theorem dX3_nextsOf_15 : decode cX3_nextsOf 15 = .ok (.istore 4, 2) := by decide +kernel
theorem dX3_nextsOf_17 : decode cX3_nextsOf 17 = .ok (.iload_n 2, 1) := by decide +kernel
theorem dX3_nextsOf_18 : decode cX3_nextsOf 18 = .ok (.aload_n 0, 1) := by decide +kernel
theorem dX3_nextsOf_19 : decode cX3_nextsOf 19 = .ok (.iload 4, 2) := by decide +kernel
theorem dX3_nextsOf_21 : decode cX3_nextsOf 21 = .ok (.invokevirtual 61, 3) := by decide +kernel
theorem dX3_nextsOf_24 : decode cX3_nextsOf 24 = .ok (.ifCond .eq 10, 3) := by decide +kernel
theorem dX3_nextsOf_27 : decode cX3_nextsOf 27 = .ok (.iconst 1, 1) := by decide +kernel
theorem dX3_nextsOf_28 : decode cX3_nextsOf 28 = .ok (.iload 4, 2) := by decide +kernel
theorem dX3_nextsOf_30 : decode cX3_nextsOf 30 = .ok (.ishl, 1) := by decide +kernel
theorem dX3_nextsOf_31 : decode cX3_nextsOf 31 = .ok (.goto 4, 3) := by decide +kernel
theorem dX3_nextsOf_34 : decode cX3_nextsOf 34 = .ok (.iconst 0, 1) := by decide +kernel
theorem dX3_nextsOf_35 : decode cX3_nextsOf 35 = .ok (.ior, 1) := by decide +kernel
theorem dX3_nextsOf_36 : decode cX3_nextsOf 36 = .ok (.istore_n 2, 1) := by decide +kernel
theorem dX3_nextsOf_37 : decode cX3_nextsOf 37 = .ok (.iinc 3 1, 3) := by decide +kernel
theorem dX3_nextsOf_40 : decode cX3_nextsOf 40 = .ok (.goto (-36), 3) := by decide +kernel
theorem dX3_nextsOf_43 : decode cX3_nextsOf 43 = .ok (.iload_n 2, 1) := by decide +kernel
theorem dX3_nextsOf_44 : decode cX3_nextsOf 44 = .ok (.ireturn, 1) := by decide +kernel
theorem dX3_isInCore_0 : decode cX3_isInCore 0 = .ok (.aload_n 0, 1) := by decide +kernel
theorem dX3_isInCore_1 : decode cX3_isInCore 1 = .ok (.iload_n 1, 1) := by decide +kernel
theorem dX3_isInCore_2 : decode cX3_isInCore 2 = .ok (.invokevirtual 61, 3) := by decide +kernel
theorem dX3_isInCore_5 : decode cX3_isInCore 5 = .ok (.ifCond .eq 20, 3) := by decide +kernel
theorem dX3_isInCore_8 : decode cX3_isInCore 8 = .ok (.aload_n 0, 1) := by decide +kernel
theorem dX3_isInCore_9 : decode cX3_isInCore 9 = .ok (.iload_n 1, 1) := by decide +kernel
theorem dX3_isInCore_10 : decode cX3_isInCore 10 = .ok (.invokevirtual 74, 3) := by decide +kernel
theorem dX3_isInCore_13 : decode cX3_isInCore 13 = .ok (.iload_n 1, 1) := by decide +kernel
theorem dX3_isInCore_14 : decode cX3_isInCore 14 = .ok (.ishr, 1) := by decide +kernel
theorem dX3_isInCore_15 : decode cX3_isInCore 15 = .ok (.iconst 1, 1) := by decide +kernel
theorem dX3_isInCore_16 : decode cX3_isInCore 16 = .ok (.iand, 1) := by decide +kernel
theorem dX3_isInCore_17 : decode cX3_isInCore 17 = .ok (.iconst 1, 1) := by decide +kernel
theorem dX3_isInCore_18 : decode cX3_isInCore 18 = .ok (.if_icmp .ne 7, 3) := by decide +kernel
theorem dX3_isInCore_21 : decode cX3_isInCore 21 = .ok (.iconst 1, 1) := by decide +kernel
theorem dX3_isInCore_22 : decode cX3_isInCore 22 = .ok (.goto 4, 3) := by decide +kernel
theorem dX3_isInCore_25 : decode cX3_isInCore 25 = .ok (.iconst 0, 1) := by decide +kernel
theorem dX3_isInCore_26 : decode cX3_isInCore 26 = .ok (.ireturn, 1) := by decide +kernel
theorem dX3_inCore_0 : decode cX3_inCore 0 = .ok (.iconst 0, 1) := by decide +kernel
theorem dX3_inCore_1 : decode cX3_inCore 1 = .ok (.istore_n 1, 1) := by decide +kernel
theorem dX3_inCore_2 : decode cX3_inCore 2 = .ok (.iconst 0, 1) := by decide +kernel
theorem dX3_inCore_3 : decode cX3_inCore 3 = .ok (.istore_n 2, 1) := by decide +kernel
theorem dX3_inCore_4 : decode cX3_inCore 4 = .ok (.iload_n 2, 1) := by decide +kernel
theorem dX3_inCore_5 : decode cX3_inCore 5 = .ok (.aload_n 0, 1) := by decide +kernel
theorem dX3_inCore_6 : decode cX3_inCore 6 = .ok (.getfield 24, 3) := by decide +kernel
theorem dX3_inCore_9 : decode cX3_inCore 9 = .ok (.if_icmp .ge 25, 3) := by decide +kernel
theorem dX3_inCore_12 : decode cX3_inCore 12 = .ok (.iload_n 1, 1) := by decide +kernel
theorem dX3_inCore_13 : decode cX3_inCore 13 = .ok (.aload_n 0, 1) := by decide +kernel
theorem dX3_inCore_14 : decode cX3_inCore 14 = .ok (.iload_n 2, 1) := by decide +kernel
theorem dX3_inCore_15 : decode cX3_inCore 15 = .ok (.invokevirtual 77, 3) := by decide +kernel
theorem dX3_inCore_18 : decode cX3_inCore 18 = .ok (.ifCond .eq 7, 3) := by decide +kernel
theorem dX3_inCore_21 : decode cX3_inCore 21 = .ok (.iconst 1, 1) := by decide +kernel
theorem dX3_inCore_22 : decode cX3_inCore 22 = .ok (.goto 4, 3) := by decide +kernel
theorem dX3_inCore_25 : decode cX3_inCore 25 = .ok (.iconst 0, 1) := by decide +kernel
theorem dX3_inCore_26 : decode cX3_inCore 26 = .ok (.iadd, 1) := by decide +kernel
theorem dX3_inCore_27 : decode cX3_inCore 27 = .ok (.istore_n 1, 1) := by decide +kernel
theorem dX3_inCore_28 : decode cX3_inCore 28 = .ok (.iinc 2 1, 3) := by decide +kernel
theorem dX3_inCore_31 : decode cX3_inCore 31 = .ok (.goto (-27), 3) := by decide +kernel
theorem dX3_inCore_34 : decode cX3_inCore 34 = .ok (.iload_n 1, 1) := by decide +kernel
theorem dX3_inCore_35 : decode cX3_inCore 35 = .ok (.ireturn, 1) := by decide +kernel
theorem dX3_leastAlike_0 : decode cX3_leastAlike 0 = .ok (.aload_n 0, 1) := by decide +kernel
theorem dX3_leastAlike_1 : decode cX3_leastAlike 1 = .ok (.invokevirtual 80, 3) := by decide +kernel
theorem dX3_leastAlike_4 : decode cX3_leastAlike 4 = .ok (.aload_n 0, 1) := by decide +kernel
theorem dX3_leastAlike_5 : decode cX3_leastAlike 5 = .ok (.iload_n 1, 1) := by decide +kernel
theorem dX3_leastAlike_6 : decode cX3_leastAlike 6 = .ok (.invokevirtual 61, 3) := by decide +kernel
theorem dX3_leastAlike_9 : decode cX3_leastAlike 9 = .ok (.ifCond .eq 12, 3) := by decide +kernel
theorem dX3_leastAlike_12 : decode cX3_leastAlike 12 = .ok (.aload_n 0, 1) := by decide +kernel
theorem dX3_leastAlike_13 : decode cX3_leastAlike 13 = .ok (.getfield 18, 3) := by decide +kernel
theorem dX3_leastAlike_16 : decode cX3_leastAlike 16 = .ok (.iload_n 1, 1) := by decide +kernel
theorem dX3_leastAlike_17 : decode cX3_leastAlike 17 = .ok (.iaload, 1) := by decide +kernel
theorem dX3_leastAlike_18 : decode cX3_leastAlike 18 = .ok (.goto 4, 3) := by decide +kernel
theorem dX3_leastAlike_21 : decode cX3_leastAlike 21 = .ok (.iconst (-1), 1) := by decide +kernel
theorem dX3_leastAlike_22 : decode cX3_leastAlike 22 = .ok (.ireturn, 1) := by decide +kernel
theorem dX3_classes_0 : decode cX3_classes 0 = .ok (.aload_n 0, 1) := by decide +kernel
theorem dX3_classes_1 : decode cX3_classes 1 = .ok (.invokevirtual 80, 3) := by decide +kernel
theorem dX3_classes_4 : decode cX3_classes 4 = .ok (.iconst 0, 1) := by decide +kernel
theorem dX3_classes_5 : decode cX3_classes 5 = .ok (.istore_n 1, 1) := by decide +kernel
theorem dX3_classes_6 : decode cX3_classes 6 = .ok (.iconst 0, 1) := by decide +kernel
theorem dX3_classes_7 : decode cX3_classes 7 = .ok (.istore_n 2, 1) := by decide +kernel
theorem dX3_classes_8 : decode cX3_classes 8 = .ok (.iload_n 2, 1) := by decide +kernel
theorem dX3_classes_9 : decode cX3_classes 9 = .ok (.aload_n 0, 1) := by decide +kernel
theorem dX3_classes_10 : decode cX3_classes 10 = .ok (.getfield 24, 3) := by decide +kernel
theorem dX3_classes_13 : decode cX3_classes 13 = .ok (.if_icmp .ge 27, 3) := by decide +kernel
theorem dX3_classes_16 : decode cX3_classes 16 = .ok (.iload_n 1, 1) := by decide +kernel
theorem dX3_classes_17 : decode cX3_classes 17 = .ok (.aload_n 0, 1) := by decide +kernel
theorem dX3_classes_18 : decode cX3_classes 18 = .ok (.getfield 18, 3) := by decide +kernel
theorem dX3_classes_21 : decode cX3_classes 21 = .ok (.iload_n 2, 1) := by decide +kernel
theorem dX3_classes_22 : decode cX3_classes 22 = .ok (.iaload, 1) := by decide +kernel
theorem dX3_classes_23 : decode cX3_classes 23 = .ok (.iload_n 2, 1) := by decide +kernel
theorem dX3_classes_24 : decode cX3_classes 24 = .ok (.if_icmp .ne 7, 3) := by decide +kernel
theorem dX3_classes_27 : decode cX3_classes 27 = .ok (.iconst 1, 1) := by decide +kernel
theorem dX3_classes_28 : decode cX3_classes 28 = .ok (.goto 4, 3) := by decide +kernel
theorem dX3_classes_31 : decode cX3_classes 31 = .ok (.iconst 0, 1) := by decide +kernel
theorem dX3_classes_32 : decode cX3_classes 32 = .ok (.iadd, 1) := by decide +kernel
theorem dX3_classes_33 : decode cX3_classes 33 = .ok (.istore_n 1, 1) := by decide +kernel
theorem dX3_classes_34 : decode cX3_classes 34 = .ok (.iinc 2 1, 3) := by decide +kernel
theorem dX3_classes_37 : decode cX3_classes 37 = .ok (.goto (-29), 3) := by decide +kernel
theorem dX3_classes_40 : decode cX3_classes 40 = .ok (.iload_n 1, 1) := by decide +kernel
theorem dX3_classes_41 : decode cX3_classes 41 = .ok (.ireturn, 1) := by decide +kernel
theorem dX3_findAlike_0 : decode cX3_findAlike 0 = .ok (.iconst 0, 1) := by decide +kernel
theorem dX3_findAlike_1 : decode cX3_findAlike 1 = .ok (.istore_n 1, 1) := by decide +kernel
theorem dX3_findAlike_2 : decode cX3_findAlike 2 = .ok (.iload_n 1, 1) := by decide +kernel
theorem dX3_findAlike_3 : decode cX3_findAlike 3 = .ok (.bipush 6, 2) := by decide +kernel
theorem dX3_findAlike_5 : decode cX3_findAlike 5 = .ok (.if_icmp .gt 16, 3) := by decide +kernel
theorem dX3_findAlike_8 : decode cX3_findAlike 8 = .ok (.aload_n 0, 1) := by decide +kernel
theorem dX3_findAlike_9 : decode cX3_findAlike 9 = .ok (.getfield 18, 3) := by decide +kernel
theorem dX3_findAlike_12 : decode cX3_findAlike 12 = .ok (.iload_n 1, 1) := by decide +kernel
theorem dX3_findAlike_13 : decode cX3_findAlike 13 = .ok (.iconst 0, 1) := by decide +kernel
theorem dX3_findAlike_14 : decode cX3_findAlike 14 = .ok (.iastore, 1) := by decide +kernel
theorem dX3_findAlike_15 : decode cX3_findAlike 15 = .ok (.iinc 1 1, 3) := by decide +kernel
theorem dX3_findAlike_18 : decode cX3_findAlike 18 = .ok (.goto (-16), 3) := by decide +kernel
theorem dX3_findAlike_21 : decode cX3_findAlike 21 = .ok (.iconst 0, 1) := by decide +kernel
theorem dX3_findAlike_22 : decode cX3_findAlike 22 = .ok (.istore_n 1, 1) := by decide +kernel
theorem dX3_findAlike_23 : decode cX3_findAlike 23 = .ok (.iload_n 1, 1) := by decide +kernel
theorem dX3_findAlike_24 : decode cX3_findAlike 24 = .ok (.bipush 6, 2) := by decide +kernel
theorem dX3_findAlike_26 : decode cX3_findAlike 26 = .ok (.if_icmp .gt 49, 3) := by decide +kernel
theorem dX3_findAlike_29 : decode cX3_findAlike 29 = .ok (.iconst 0, 1) := by decide +kernel
theorem dX3_findAlike_30 : decode cX3_findAlike 30 = .ok (.istore_n 2, 1) := by decide +kernel
theorem dX3_findAlike_31 : decode cX3_findAlike 31 = .ok (.iload_n 2, 1) := by decide +kernel
theorem dX3_findAlike_32 : decode cX3_findAlike 32 = .ok (.bipush 6, 2) := by decide +kernel
theorem dX3_findAlike_34 : decode cX3_findAlike 34 = .ok (.if_icmp .gt 20, 3) := by decide +kernel
theorem dX3_findAlike_37 : decode cX3_findAlike 37 = .ok (.aload_n 0, 1) := by decide +kernel
theorem dX3_findAlike_38 : decode cX3_findAlike 38 = .ok (.getfield 21, 3) := by decide +kernel
theorem dX3_findAlike_41 : decode cX3_findAlike 41 = .ok (.iload_n 2, 1) := by decide +kernel
theorem dX3_findAlike_42 : decode cX3_findAlike 42 = .ok (.aload_n 0, 1) := by decide +kernel
theorem dX3_findAlike_43 : decode cX3_findAlike 43 = .ok (.iload_n 2, 1) := by decide +kernel
theorem dX3_findAlike_44 : decode cX3_findAlike 44 = .ok (.invokevirtual 83, 3) := by decide +kernel
theorem dX3_findAlike_47 : decode cX3_findAlike 47 = .ok (.iastore, 1) := by decide +kernel
theorem dX3_findAlike_48 : decode cX3_findAlike 48 = .ok (.iinc 2 1, 3) := by decide +kernel
theorem dX3_findAlike_51 : decode cX3_findAlike 51 = .ok (.goto (-20), 3) := by decide +kernel
theorem dX3_findAlike_54 : decode cX3_findAlike 54 = .ok (.aload_n 0, 1) := by decide +kernel
theorem dX3_findAlike_55 : decode cX3_findAlike 55 = .ok (.getfield 21, 3) := by decide +kernel
theorem dX3_findAlike_58 : decode cX3_findAlike 58 = .ok (.iconst 0, 1) := by decide +kernel
theorem dX3_findAlike_59 : decode cX3_findAlike 59 = .ok (.aload_n 0, 1) := by decide +kernel
theorem dX3_findAlike_60 : decode cX3_findAlike 60 = .ok (.getfield 18, 3) := by decide +kernel
theorem dX3_findAlike_63 : decode cX3_findAlike 63 = .ok (.iconst 0, 1) := by decide +kernel
theorem dX3_findAlike_64 : decode cX3_findAlike 64 = .ok (.bipush 7, 2) := by decide +kernel
theorem dX3_findAlike_66 : decode cX3_findAlike 66 = .ok (.invokestatic 55, 3) := by decide +kernel
theorem dX3_findAlike_69 : decode cX3_findAlike 69 = .ok (.iinc 1 1, 3) := by decide +kernel
theorem dX3_findAlike_72 : decode cX3_findAlike 72 = .ok (.goto (-49), 3) := by decide +kernel
theorem dX3_findAlike_75 : decode cX3_findAlike 75 = .ok (.return_, 1) := by decide +kernel
theorem dX3_leastThatSeemsAlike_0 : decode cX3_leastThatSeemsAlike 0 = .ok (.iconst 0, 1) := by decide +kernel
theorem dX3_leastThatSeemsAlike_1 : decode cX3_leastThatSeemsAlike 1 = .ok (.istore_n 2, 1) := by decide +kernel
theorem dX3_leastThatSeemsAlike_2 : decode cX3_leastThatSeemsAlike 2 = .ok (.iload_n 2, 1) := by decide +kernel
theorem dX3_leastThatSeemsAlike_3 : decode cX3_leastThatSeemsAlike 3 = .ok (.iload_n 1, 1) := by decide +kernel
theorem dX3_leastThatSeemsAlike_4 : decode cX3_leastThatSeemsAlike 4 = .ok (.if_icmp .ge 54, 3) := by decide +kernel
theorem dX3_leastThatSeemsAlike_7 : decode cX3_leastThatSeemsAlike 7 = .ok (.aload_n 0, 1) := by decide +kernel
theorem dX3_leastThatSeemsAlike_8 : decode cX3_leastThatSeemsAlike 8 = .ok (.iload_n 1, 1) := by decide +kernel
theorem dX3_leastThatSeemsAlike_9 : decode cX3_leastThatSeemsAlike 9 = .ok (.invokevirtual 86, 3) := by decide +kernel
theorem dX3_leastThatSeemsAlike_12 : decode cX3_leastThatSeemsAlike 12 = .ok (.aload_n 0, 1) := by decide +kernel
theorem dX3_leastThatSeemsAlike_13 : decode cX3_leastThatSeemsAlike 13 = .ok (.iload_n 2, 1) := by decide +kernel
theorem dX3_leastThatSeemsAlike_14 : decode cX3_leastThatSeemsAlike 14 = .ok (.invokevirtual 86, 3) := by decide +kernel
theorem dX3_leastThatSeemsAlike_17 : decode cX3_leastThatSeemsAlike 17 = .ok (.if_icmp .ne 35, 3) := by decide +kernel
theorem dX3_leastThatSeemsAlike_20 : decode cX3_leastThatSeemsAlike 20 = .ok (.aload_n 0, 1) := by decide +kernel
theorem dX3_leastThatSeemsAlike_21 : decode cX3_leastThatSeemsAlike 21 = .ok (.iload_n 1, 1) := by decide +kernel
theorem dX3_leastThatSeemsAlike_22 : decode cX3_leastThatSeemsAlike 22 = .ok (.iconst 0, 1) := by decide +kernel
theorem dX3_leastThatSeemsAlike_23 : decode cX3_leastThatSeemsAlike 23 = .ok (.invokevirtual 89, 3) := by decide +kernel
theorem dX3_leastThatSeemsAlike_26 : decode cX3_leastThatSeemsAlike 26 = .ok (.aload_n 0, 1) := by decide +kernel
theorem dX3_leastThatSeemsAlike_27 : decode cX3_leastThatSeemsAlike 27 = .ok (.iload_n 2, 1) := by decide +kernel
theorem dX3_leastThatSeemsAlike_28 : decode cX3_leastThatSeemsAlike 28 = .ok (.iconst 0, 1) := by decide +kernel
theorem dX3_leastThatSeemsAlike_29 : decode cX3_leastThatSeemsAlike 29 = .ok (.invokevirtual 89, 3) := by decide +kernel
theorem dX3_leastThatSeemsAlike_32 : decode cX3_leastThatSeemsAlike 32 = .ok (.if_icmp .ne 20, 3) := by decide +kernel
theorem dX3_leastThatSeemsAlike_35 : decode cX3_leastThatSeemsAlike 35 = .ok (.aload_n 0, 1) := by decide +kernel
theorem dX3_leastThatSeemsAlike_36 : decode cX3_leastThatSeemsAlike 36 = .ok (.iload_n 1, 1) := by decide +kernel
theorem dX3_leastThatSeemsAlike_37 : decode cX3_leastThatSeemsAlike 37 = .ok (.iconst 1, 1) := by decide +kernel
theorem dX3_leastThatSeemsAlike_38 : decode cX3_leastThatSeemsAlike 38 = .ok (.invokevirtual 89, 3) := by decide +kernel
theorem dX3_leastThatSeemsAlike_41 : decode cX3_leastThatSeemsAlike 41 = .ok (.aload_n 0, 1) := by decide +kernel
theorem dX3_leastThatSeemsAlike_42 : decode cX3_leastThatSeemsAlike 42 = .ok (.iload_n 2, 1) := by decide +kernel
theorem dX3_leastThatSeemsAlike_43 : decode cX3_leastThatSeemsAlike 43 = .ok (.iconst 1, 1) := by decide +kernel
theorem dX3_leastThatSeemsAlike_44 : decode cX3_leastThatSeemsAlike 44 = .ok (.invokevirtual 89, 3) := by decide +kernel
theorem dX3_leastThatSeemsAlike_47 : decode cX3_leastThatSeemsAlike 47 = .ok (.if_icmp .ne 5, 3) := by decide +kernel
theorem dX3_leastThatSeemsAlike_50 : decode cX3_leastThatSeemsAlike 50 = .ok (.iload_n 2, 1) := by decide +kernel
theorem dX3_leastThatSeemsAlike_51 : decode cX3_leastThatSeemsAlike 51 = .ok (.ireturn, 1) := by decide +kernel
theorem dX3_leastThatSeemsAlike_52 : decode cX3_leastThatSeemsAlike 52 = .ok (.iinc 2 1, 3) := by decide +kernel
theorem dX3_leastThatSeemsAlike_55 : decode cX3_leastThatSeemsAlike 55 = .ok (.goto (-53), 3) := by decide +kernel
theorem dX3_leastThatSeemsAlike_58 : decode cX3_leastThatSeemsAlike 58 = .ok (.iload_n 1, 1) := by decide +kernel
theorem dX3_leastThatSeemsAlike_59 : decode cX3_leastThatSeemsAlike 59 = .ok (.ireturn, 1) := by decide +kernel
theorem dX3_leastBehind_0 : decode cX3_leastBehind 0 = .ok (.aload_n 0, 1) := by decide +kernel
theorem dX3_leastBehind_1 : decode cX3_leastBehind 1 = .ok (.iload_n 1, 1) := by decide +kernel
theorem dX3_leastBehind_2 : decode cX3_leastBehind 2 = .ok (.iload_n 2, 1) := by decide +kernel
theorem dX3_leastBehind_3 : decode cX3_leastBehind 3 = .ok (.invokevirtual 71, 3) := by decide +kernel
theorem dX3_leastBehind_6 : decode cX3_leastBehind 6 = .ok (.istore_n 3, 1) := by decide +kernel
theorem dX3_leastBehind_7 : decode cX3_leastBehind 7 = .ok (.aload_n 0, 1) := by decide +kernel
theorem dX3_leastBehind_8 : decode cX3_leastBehind 8 = .ok (.getfield 18, 3) := by decide +kernel
theorem dX3_leastBehind_11 : decode cX3_leastBehind 11 = .ok (.aload_n 0, 1) := by decide +kernel
theorem dX3_leastBehind_12 : decode cX3_leastBehind 12 = .ok (.iload_n 3, 1) := by decide +kernel
theorem dX3_leastBehind_13 : decode cX3_leastBehind 13 = .ok (.invokevirtual 61, 3) := by decide +kernel
theorem dX3_leastBehind_16 : decode cX3_leastBehind 16 = .ok (.ifCond .eq 7, 3) := by decide +kernel
theorem dX3_leastBehind_19 : decode cX3_leastBehind 19 = .ok (.iload_n 3, 1) := by decide +kernel
theorem dX3_leastBehind_20 : decode cX3_leastBehind 20 = .ok (.goto 5, 3) := by decide +kernel
theorem dX3_leastBehind_23 : decode cX3_leastBehind 23 = .ok (.bipush 6, 2) := by decide +kernel
theorem dX3_leastBehind_25 : decode cX3_leastBehind 25 = .ok (.iaload, 1) := by decide +kernel
theorem dX3_leastBehind_26 : decode cX3_leastBehind 26 = .ok (.ireturn, 1) := by decide +kernel
theorem dX3_letterBehind_0 : decode cX3_letterBehind 0 = .ok (.iload_n 1, 1) := by decide +kernel
theorem dX3_letterBehind_1 : decode cX3_letterBehind 1 = .ok (.invokestatic 92, 3) := by decide +kernel
theorem dX3_letterBehind_4 : decode cX3_letterBehind 4 = .ok (.istore_n 3, 1) := by decide +kernel
theorem dX3_letterBehind_5 : decode cX3_letterBehind 5 = .ok (.iload_n 1, 1) := by decide +kernel
theorem dX3_letterBehind_6 : decode cX3_letterBehind 6 = .ok (.invokestatic 95, 3) := by decide +kernel
theorem dX3_letterBehind_9 : decode cX3_letterBehind 9 = .ok (.istore 4, 2) := by decide +kernel
theorem dX3_letterBehind_11 : decode cX3_letterBehind 11 = .ok (.iload 4, 2) := by decide +kernel
theorem dX3_letterBehind_13 : decode cX3_letterBehind 13 = .ok (.ifCond .eq 17, 3) := by decide +kernel
theorem dX3_letterBehind_16 : decode cX3_letterBehind 16 = .ok (.aload_n 0, 1) := by decide +kernel
theorem dX3_letterBehind_17 : decode cX3_letterBehind 17 = .ok (.iload_n 3, 1) := by decide +kernel
theorem dX3_letterBehind_18 : decode cX3_letterBehind 18 = .ok (.invokevirtual 86, 3) := by decide +kernel
theorem dX3_letterBehind_21 : decode cX3_letterBehind 21 = .ok (.ifCond .eq 9, 3) := by decide +kernel
theorem dX3_letterBehind_24 : decode cX3_letterBehind 24 = .ok (.iconst 1, 1) := by decide +kernel
theorem dX3_letterBehind_25 : decode cX3_letterBehind 25 = .ok (.iload_n 2, 1) := by decide +kernel
theorem dX3_letterBehind_26 : decode cX3_letterBehind 26 = .ok (.isub, 1) := by decide +kernel
theorem dX3_letterBehind_27 : decode cX3_letterBehind 27 = .ok (.goto 4, 3) := by decide +kernel
theorem dX3_letterBehind_30 : decode cX3_letterBehind 30 = .ok (.iload_n 2, 1) := by decide +kernel
theorem dX3_letterBehind_31 : decode cX3_letterBehind 31 = .ok (.istore 5, 2) := by decide +kernel
theorem dX3_letterBehind_33 : decode cX3_letterBehind 33 = .ok (.aload_n 0, 1) := by decide +kernel
theorem dX3_letterBehind_34 : decode cX3_letterBehind 34 = .ok (.iload_n 3, 1) := by decide +kernel
theorem dX3_letterBehind_35 : decode cX3_letterBehind 35 = .ok (.iload 5, 2) := by decide +kernel
theorem dX3_letterBehind_37 : decode cX3_letterBehind 37 = .ok (.invokevirtual 71, 3) := by decide +kernel
theorem dX3_letterBehind_40 : decode cX3_letterBehind 40 = .ok (.istore 6, 2) := by decide +kernel
theorem dX3_letterBehind_42 : decode cX3_letterBehind 42 = .ok (.iload 6, 2) := by decide +kernel
theorem dX3_letterBehind_44 : decode cX3_letterBehind 44 = .ok (.iconst (-1), 1) := by decide +kernel
theorem dX3_letterBehind_45 : decode cX3_letterBehind 45 = .ok (.if_icmp .ne 7, 3) := by decide +kernel
theorem dX3_letterBehind_48 : decode cX3_letterBehind 48 = .ok (.iconst (-1), 1) := by decide +kernel
theorem dX3_letterBehind_49 : decode cX3_letterBehind 49 = .ok (.goto 10, 3) := by decide +kernel
theorem dX3_letterBehind_52 : decode cX3_letterBehind 52 = .ok (.iload 6, 2) := by decide +kernel
theorem dX3_letterBehind_54 : decode cX3_letterBehind 54 = .ok (.iload 4, 2) := by decide +kernel
theorem dX3_letterBehind_56 : decode cX3_letterBehind 56 = .ok (.invokestatic 98, 3) := by decide +kernel
theorem dX3_letterBehind_59 : decode cX3_letterBehind 59 = .ok (.ireturn, 1) := by decide +kernel
theorem dX3_flipsFirstSign_0 : decode cX3_flipsFirstSign 0 = .ok (.iconst 0, 1) := by decide +kernel
theorem dX3_flipsFirstSign_1 : decode cX3_flipsFirstSign 1 = .ok (.istore_n 2, 1) := by decide +kernel
theorem dX3_flipsFirstSign_2 : decode cX3_flipsFirstSign 2 = .ok (.iconst 0, 1) := by decide +kernel
theorem dX3_flipsFirstSign_3 : decode cX3_flipsFirstSign 3 = .ok (.istore_n 3, 1) := by decide +kernel
theorem dX3_flipsFirstSign_4 : decode cX3_flipsFirstSign 4 = .ok (.iload_n 3, 1) := by decide +kernel
theorem dX3_flipsFirstSign_5 : decode cX3_flipsFirstSign 5 = .ok (.aload_n 1, 1) := by decide +kernel
theorem dX3_flipsFirstSign_6 : decode cX3_flipsFirstSign 6 = .ok (.invokevirtual 102, 3) := by decide +kernel
theorem dX3_flipsFirstSign_9 : decode cX3_flipsFirstSign 9 = .ok (.if_icmp .ge 34, 3) := by decide +kernel
theorem dX3_flipsFirstSign_12 : decode cX3_flipsFirstSign 12 = .ok (.aload_n 0, 1) := by decide +kernel
theorem dX3_flipsFirstSign_13 : decode cX3_flipsFirstSign 13 = .ok (.aload_n 1, 1) := by decide +kernel
theorem dX3_flipsFirstSign_14 : decode cX3_flipsFirstSign 14 = .ok (.iload_n 3, 1) := by decide +kernel
theorem dX3_flipsFirstSign_15 : decode cX3_flipsFirstSign 15 = .ok (.invokevirtual 106, 3) := by decide +kernel
theorem dX3_flipsFirstSign_18 : decode cX3_flipsFirstSign 18 = .ok (.invokestatic 92, 3) := by decide +kernel
theorem dX3_flipsFirstSign_21 : decode cX3_flipsFirstSign 21 = .ok (.invokevirtual 86, 3) := by decide +kernel
theorem dX3_flipsFirstSign_24 : decode cX3_flipsFirstSign 24 = .ok (.ifCond .eq 13, 3) := by decide +kernel
theorem dX3_flipsFirstSign_27 : decode cX3_flipsFirstSign 27 = .ok (.iload_n 2, 1) := by decide +kernel
theorem dX3_flipsFirstSign_28 : decode cX3_flipsFirstSign 28 = .ok (.ifCond .ne 7, 3) := by decide +kernel
theorem dX3_flipsFirstSign_31 : decode cX3_flipsFirstSign 31 = .ok (.iconst 1, 1) := by decide +kernel
theorem dX3_flipsFirstSign_32 : decode cX3_flipsFirstSign 32 = .ok (.goto 4, 3) := by decide +kernel
theorem dX3_flipsFirstSign_35 : decode cX3_flipsFirstSign 35 = .ok (.iconst 0, 1) := by decide +kernel
theorem dX3_flipsFirstSign_36 : decode cX3_flipsFirstSign 36 = .ok (.istore_n 2, 1) := by decide +kernel
theorem dX3_flipsFirstSign_37 : decode cX3_flipsFirstSign 37 = .ok (.iinc 3 1, 3) := by decide +kernel
theorem dX3_flipsFirstSign_40 : decode cX3_flipsFirstSign 40 = .ok (.goto (-36), 3) := by decide +kernel
theorem dX3_flipsFirstSign_43 : decode cX3_flipsFirstSign 43 = .ok (.iload_n 2, 1) := by decide +kernel
theorem dX3_flipsFirstSign_44 : decode cX3_flipsFirstSign 44 = .ok (.ireturn, 1) := by decide +kernel
theorem dX3_putSection_0 : decode cX3_putSection 0 = .ok (.iload_n 2, 1) := by decide +kernel
theorem dX3_putSection_1 : decode cX3_putSection 1 = .ok (.istore 4, 2) := by decide +kernel
theorem dX3_putSection_3 : decode cX3_putSection 3 = .ok (.aload_n 3, 1) := by decide +kernel
theorem dX3_putSection_4 : decode cX3_putSection 4 = .ok (.invokevirtual 109, 3) := by decide +kernel
theorem dX3_putSection_7 : decode cX3_putSection 7 = .ok (.iconst 0, 1) := by decide +kernel
theorem dX3_putSection_8 : decode cX3_putSection 8 = .ok (.istore 5, 2) := by decide +kernel
theorem dX3_putSection_10 : decode cX3_putSection 10 = .ok (.iload 5, 2) := by decide +kernel
theorem dX3_putSection_12 : decode cX3_putSection 12 = .ok (.aload_n 1, 1) := by decide +kernel
theorem dX3_putSection_13 : decode cX3_putSection 13 = .ok (.invokevirtual 102, 3) := by decide +kernel
theorem dX3_putSection_16 : decode cX3_putSection 16 = .ok (.if_icmp .ge 62, 3) := by decide +kernel
theorem dX3_putSection_19 : decode cX3_putSection 19 = .ok (.aload_n 1, 1) := by decide +kernel
theorem dX3_putSection_20 : decode cX3_putSection 20 = .ok (.iload 5, 2) := by decide +kernel
theorem dX3_putSection_22 : decode cX3_putSection 22 = .ok (.invokevirtual 106, 3) := by decide +kernel
theorem dX3_putSection_25 : decode cX3_putSection 25 = .ok (.istore 6, 2) := by decide +kernel
theorem dX3_putSection_27 : decode cX3_putSection 27 = .ok (.aload_n 0, 1) := by decide +kernel
theorem dX3_putSection_28 : decode cX3_putSection 28 = .ok (.iload 6, 2) := by decide +kernel
theorem dX3_putSection_30 : decode cX3_putSection 30 = .ok (.iload 4, 2) := by decide +kernel
theorem dX3_putSection_32 : decode cX3_putSection 32 = .ok (.invokevirtual 112, 3) := by decide +kernel
theorem dX3_putSection_35 : decode cX3_putSection 35 = .ok (.istore 7, 2) := by decide +kernel
theorem dX3_putSection_37 : decode cX3_putSection 37 = .ok (.iload 7, 2) := by decide +kernel
theorem dX3_putSection_39 : decode cX3_putSection 39 = .ok (.iconst (-1), 1) := by decide +kernel
theorem dX3_putSection_40 : decode cX3_putSection 40 = .ok (.if_icmp .eq 9, 3) := by decide +kernel
theorem dX3_putSection_43 : decode cX3_putSection 43 = .ok (.aload_n 3, 1) := by decide +kernel
theorem dX3_putSection_44 : decode cX3_putSection 44 = .ok (.iload 7, 2) := by decide +kernel
theorem dX3_putSection_46 : decode cX3_putSection 46 = .ok (.invokevirtual 115, 3) := by decide +kernel
theorem dX3_putSection_49 : decode cX3_putSection 49 = .ok (.aload_n 0, 1) := by decide +kernel
theorem dX3_putSection_50 : decode cX3_putSection 50 = .ok (.iload 6, 2) := by decide +kernel
theorem dX3_putSection_52 : decode cX3_putSection 52 = .ok (.invokestatic 92, 3) := by decide +kernel
theorem dX3_putSection_55 : decode cX3_putSection 55 = .ok (.invokevirtual 86, 3) := by decide +kernel
theorem dX3_putSection_58 : decode cX3_putSection 58 = .ok (.ifCond .eq 10, 3) := by decide +kernel
theorem dX3_putSection_61 : decode cX3_putSection 61 = .ok (.iconst 1, 1) := by decide +kernel
theorem dX3_putSection_62 : decode cX3_putSection 62 = .ok (.iload 4, 2) := by decide +kernel
theorem dX3_putSection_64 : decode cX3_putSection 64 = .ok (.isub, 1) := by decide +kernel
theorem dX3_putSection_65 : decode cX3_putSection 65 = .ok (.goto 5, 3) := by decide +kernel
theorem dX3_putSection_68 : decode cX3_putSection 68 = .ok (.iload 4, 2) := by decide +kernel
theorem dX3_putSection_70 : decode cX3_putSection 70 = .ok (.istore 4, 2) := by decide +kernel
theorem dX3_putSection_72 : decode cX3_putSection 72 = .ok (.iinc 5 1, 3) := by decide +kernel
theorem dX3_putSection_75 : decode cX3_putSection 75 = .ok (.goto (-65), 3) := by decide +kernel
theorem dX3_putSection_78 : decode cX3_putSection 78 = .ok (.return_, 1) := by decide +kernel
theorem dX3_rowAfterWord_0 : decode cX3_rowAfterWord 0 = .ok (.iload_n 2, 1) := by decide +kernel
theorem dX3_rowAfterWord_1 : decode cX3_rowAfterWord 1 = .ok (.istore 4, 2) := by decide +kernel
theorem dX3_rowAfterWord_3 : decode cX3_rowAfterWord 3 = .ok (.iconst 0, 1) := by decide +kernel
theorem dX3_rowAfterWord_4 : decode cX3_rowAfterWord 4 = .ok (.istore 5, 2) := by decide +kernel
theorem dX3_rowAfterWord_6 : decode cX3_rowAfterWord 6 = .ok (.iload 5, 2) := by decide +kernel
theorem dX3_rowAfterWord_8 : decode cX3_rowAfterWord 8 = .ok (.aload_n 1, 1) := by decide +kernel
theorem dX3_rowAfterWord_9 : decode cX3_rowAfterWord 9 = .ok (.invokevirtual 102, 3) := by decide +kernel
theorem dX3_rowAfterWord_12 : decode cX3_rowAfterWord 12 = .ok (.if_icmp .ge 24, 3) := by decide +kernel
theorem dX3_rowAfterWord_15 : decode cX3_rowAfterWord 15 = .ok (.aload_n 0, 1) := by decide +kernel
theorem dX3_rowAfterWord_16 : decode cX3_rowAfterWord 16 = .ok (.aload_n 1, 1) := by decide +kernel
theorem dX3_rowAfterWord_17 : decode cX3_rowAfterWord 17 = .ok (.iload 5, 2) := by decide +kernel
theorem dX3_rowAfterWord_19 : decode cX3_rowAfterWord 19 = .ok (.invokevirtual 106, 3) := by decide +kernel
theorem dX3_rowAfterWord_22 : decode cX3_rowAfterWord 22 = .ok (.iload 4, 2) := by decide +kernel
theorem dX3_rowAfterWord_24 : decode cX3_rowAfterWord 24 = .ok (.iload_n 3, 1) := by decide +kernel
theorem dX3_rowAfterWord_25 : decode cX3_rowAfterWord 25 = .ok (.invokevirtual 119, 3) := by decide +kernel
theorem dX3_rowAfterWord_28 : decode cX3_rowAfterWord 28 = .ok (.istore 4, 2) := by decide +kernel
theorem dX3_rowAfterWord_30 : decode cX3_rowAfterWord 30 = .ok (.iinc 5 1, 3) := by decide +kernel
theorem dX3_rowAfterWord_33 : decode cX3_rowAfterWord 33 = .ok (.goto (-27), 3) := by decide +kernel
theorem dX3_rowAfterWord_36 : decode cX3_rowAfterWord 36 = .ok (.iload 4, 2) := by decide +kernel
theorem dX3_rowAfterWord_38 : decode cX3_rowAfterWord 38 = .ok (.ireturn, 1) := by decide +kernel
theorem dX3_rowAfterLetter_0 : decode cX3_rowAfterLetter 0 = .ok (.iload_n 2, 1) := by decide +kernel
theorem dX3_rowAfterLetter_1 : decode cX3_rowAfterLetter 1 = .ok (.istore 4, 2) := by decide +kernel
theorem dX3_rowAfterLetter_3 : decode cX3_rowAfterLetter 3 = .ok (.iload_n 1, 1) := by decide +kernel
theorem dX3_rowAfterLetter_4 : decode cX3_rowAfterLetter 4 = .ok (.istore 5, 2) := by decide +kernel
theorem dX3_rowAfterLetter_6 : decode cX3_rowAfterLetter 6 = .ok (.iload_n 3, 1) := by decide +kernel
theorem dX3_rowAfterLetter_7 : decode cX3_rowAfterLetter 7 = .ok (.iconst 1, 1) := by decide +kernel
theorem dX3_rowAfterLetter_8 : decode cX3_rowAfterLetter 8 = .ok (.isub, 1) := by decide +kernel
theorem dX3_rowAfterLetter_9 : decode cX3_rowAfterLetter 9 = .ok (.istore 6, 2) := by decide +kernel
theorem dX3_rowAfterLetter_11 : decode cX3_rowAfterLetter 11 = .ok (.iload 6, 2) := by decide +kernel
theorem dX3_rowAfterLetter_13 : decode cX3_rowAfterLetter 13 = .ok (.ifCond .lt 59, 3) := by decide +kernel
theorem dX3_rowAfterLetter_16 : decode cX3_rowAfterLetter 16 = .ok (.iload 5, 2) := by decide +kernel
theorem dX3_rowAfterLetter_18 : decode cX3_rowAfterLetter 18 = .ok (.iconst (-1), 1) := by decide +kernel
theorem dX3_rowAfterLetter_19 : decode cX3_rowAfterLetter 19 = .ok (.if_icmp .eq 53, 3) := by decide +kernel
theorem dX3_rowAfterLetter_22 : decode cX3_rowAfterLetter 22 = .ok (.iload 4, 2) := by decide +kernel
theorem dX3_rowAfterLetter_24 : decode cX3_rowAfterLetter 24 = .ok (.iload 6, 2) := by decide +kernel
theorem dX3_rowAfterLetter_26 : decode cX3_rowAfterLetter 26 = .ok (.ishr, 1) := by decide +kernel
theorem dX3_rowAfterLetter_27 : decode cX3_rowAfterLetter 27 = .ok (.iconst 1, 1) := by decide +kernel
theorem dX3_rowAfterLetter_28 : decode cX3_rowAfterLetter 28 = .ok (.iand, 1) := by decide +kernel
theorem dX3_rowAfterLetter_29 : decode cX3_rowAfterLetter 29 = .ok (.istore 7, 2) := by decide +kernel
theorem dX3_rowAfterLetter_31 : decode cX3_rowAfterLetter 31 = .ok (.iload 4, 2) := by decide +kernel
theorem dX3_rowAfterLetter_33 : decode cX3_rowAfterLetter 33 = .ok (.aload_n 0, 1) := by decide +kernel
theorem dX3_rowAfterLetter_34 : decode cX3_rowAfterLetter 34 = .ok (.iload 5, 2) := by decide +kernel
theorem dX3_rowAfterLetter_36 : decode cX3_rowAfterLetter 36 = .ok (.invokestatic 92, 3) := by decide +kernel
theorem dX3_rowAfterLetter_39 : decode cX3_rowAfterLetter 39 = .ok (.invokevirtual 86, 3) := by decide +kernel
theorem dX3_rowAfterLetter_42 : decode cX3_rowAfterLetter 42 = .ok (.ifCond .eq 10, 3) := by decide +kernel
theorem dX3_rowAfterLetter_45 : decode cX3_rowAfterLetter 45 = .ok (.iconst 1, 1) := by decide +kernel
theorem dX3_rowAfterLetter_46 : decode cX3_rowAfterLetter 46 = .ok (.iload 6, 2) := by decide +kernel
theorem dX3_rowAfterLetter_48 : decode cX3_rowAfterLetter 48 = .ok (.ishl, 1) := by decide +kernel
theorem dX3_rowAfterLetter_49 : decode cX3_rowAfterLetter 49 = .ok (.goto 4, 3) := by decide +kernel
theorem dX3_rowAfterLetter_52 : decode cX3_rowAfterLetter 52 = .ok (.iconst 0, 1) := by decide +kernel
theorem dX3_rowAfterLetter_53 : decode cX3_rowAfterLetter 53 = .ok (.ixor, 1) := by decide +kernel
theorem dX3_rowAfterLetter_54 : decode cX3_rowAfterLetter 54 = .ok (.istore 4, 2) := by decide +kernel
theorem dX3_rowAfterLetter_56 : decode cX3_rowAfterLetter 56 = .ok (.aload_n 0, 1) := by decide +kernel
theorem dX3_rowAfterLetter_57 : decode cX3_rowAfterLetter 57 = .ok (.iload 5, 2) := by decide +kernel
theorem dX3_rowAfterLetter_59 : decode cX3_rowAfterLetter 59 = .ok (.iload 7, 2) := by decide +kernel
theorem dX3_rowAfterLetter_61 : decode cX3_rowAfterLetter 61 = .ok (.invokevirtual 112, 3) := by decide +kernel
theorem dX3_rowAfterLetter_64 : decode cX3_rowAfterLetter 64 = .ok (.istore 5, 2) := by decide +kernel
theorem dX3_rowAfterLetter_66 : decode cX3_rowAfterLetter 66 = .ok (.iinc 6 (-1), 3) := by decide +kernel
theorem dX3_rowAfterLetter_69 : decode cX3_rowAfterLetter 69 = .ok (.goto (-58), 3) := by decide +kernel
theorem dX3_rowAfterLetter_72 : decode cX3_rowAfterLetter 72 = .ok (.iload 4, 2) := by decide +kernel
theorem dX3_rowAfterLetter_74 : decode cX3_rowAfterLetter 74 = .ok (.ireturn, 1) := by decide +kernel
