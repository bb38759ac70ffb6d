theorem dX6_init_0 : decode cX6_init 0 = .ok (.aload_n 0, 1) := by decide +kernel
theorem dX6_init_1 : decode cX6_init 1 = .ok (.invokespecial 3, 3) := by decide +kernel
theorem dX6_init_4 : decode cX6_init 4 = .ok (.aload_n 0, 1) := by decide +kernel
theorem dX6_init_5 : decode cX6_init 5 = .ok (.new 9, 3) := by decide +kernel
theorem dX6_init_8 : decode cX6_init 8 = .ok (.dup, 1) := by decide +kernel
theorem dX6_init_9 : decode cX6_init 9 = .ok (.invokespecial 11, 3) := by decide +kernel
theorem dX6_init_12 : decode cX6_init 12 = .ok (.putfield 12, 3) := by decide +kernel
theorem dX6_init_15 : decode cX6_init 15 = .ok (.aload_n 0, 1) := by decide +kernel
theorem dX6_init_16 : decode cX6_init 16 = .ok (.new 16, 3) := by decide +kernel
theorem dX6_init_19 : decode cX6_init 19 = .ok (.dup, 1) := by decide +kernel
theorem dX6_init_20 : decode cX6_init 20 = .ok (.invokespecial 18, 3) := by decide +kernel
theorem dX6_init_23 : decode cX6_init 23 = .ok (.putfield 19, 3) := by decide +kernel
theorem dX6_init_26 : decode cX6_init 26 = .ok (.aload_n 0, 1) := by decide +kernel
theorem dX6_init_27 : decode cX6_init 27 = .ok (.new 16, 3) := by decide +kernel
theorem dX6_init_30 : decode cX6_init 30 = .ok (.dup, 1) := by decide +kernel
theorem dX6_init_31 : decode cX6_init 31 = .ok (.invokespecial 18, 3) := by decide +kernel
theorem dX6_init_34 : decode cX6_init 34 = .ok (.putfield 23, 3) := by decide +kernel
theorem dX6_init_37 : decode cX6_init 37 = .ok (.aload_n 0, 1) := by decide +kernel
theorem dX6_init_38 : decode cX6_init 38 = .ok (.iconst 3, 1) := by decide +kernel
theorem dX6_init_39 : decode cX6_init 39 = .ok (.anewarray 26, 3) := by decide +kernel
theorem dX6_init_42 : decode cX6_init 42 = .ok (.putfield 28, 3) := by decide +kernel
theorem dX6_init_45 : decode cX6_init 45 = .ok (.aload_n 0, 1) := by decide +kernel
theorem dX6_init_46 : decode cX6_init 46 = .ok (.iconst 3, 1) := by decide +kernel
theorem dX6_init_47 : decode cX6_init 47 = .ok (.anewarray 26, 3) := by decide +kernel
theorem dX6_init_50 : decode cX6_init 50 = .ok (.putfield 32, 3) := by decide +kernel
theorem dX6_init_53 : decode cX6_init 53 = .ok (.iconst 0, 1) := by decide +kernel
theorem dX6_init_54 : decode cX6_init 54 = .ok (.istore_n 1, 1) := by decide +kernel
theorem dX6_init_55 : decode cX6_init 55 = .ok (.iload_n 1, 1) := by decide +kernel
theorem dX6_init_56 : decode cX6_init 56 = .ok (.iconst 3, 1) := by decide +kernel
theorem dX6_init_57 : decode cX6_init 57 = .ok (.if_icmp .ge 39, 3) := by decide +kernel
theorem dX6_init_60 : decode cX6_init 60 = .ok (.aload_n 0, 1) := by decide +kernel
theorem dX6_init_61 : decode cX6_init 61 = .ok (.getfield 28, 3) := by decide +kernel
theorem dX6_init_64 : decode cX6_init 64 = .ok (.iload_n 1, 1) := by decide +kernel
theorem dX6_init_65 : decode cX6_init 65 = .ok (.new 26, 3) := by decide +kernel
theorem dX6_init_68 : decode cX6_init 68 = .ok (.dup, 1) := by decide +kernel
theorem dX6_init_69 : decode cX6_init 69 = .ok (.bipush 16, 2) := by decide +kernel
theorem dX6_init_71 : decode cX6_init 71 = .ok (.invokespecial 35, 3) := by decide +kernel
theorem dX6_init_74 : decode cX6_init 74 = .ok (.aastore, 1) := by decide +kernel
theorem dX6_init_75 : decode cX6_init 75 = .ok (.aload_n 0, 1) := by decide +kernel
theorem dX6_init_76 : decode cX6_init 76 = .ok (.getfield 32, 3) := by decide +kernel
theorem dX6_init_79 : decode cX6_init 79 = .ok (.iload_n 1, 1) := by decide +kernel
theorem dX6_init_80 : decode cX6_init 80 = .ok (.new 26, 3) := by decide +kernel
theorem dX6_init_83 : decode cX6_init 83 = .ok (.dup, 1) := by decide +kernel
theorem dX6_init_84 : decode cX6_init 84 = .ok (.bipush 16, 2) := by decide +kernel
theorem dX6_init_86 : decode cX6_init 86 = .ok (.invokespecial 35, 3) := by decide +kernel
theorem dX6_init_89 : decode cX6_init 89 = .ok (.aastore, 1) := by decide +kernel
theorem dX6_init_90 : decode cX6_init 90 = .ok (.iinc 1 1, 3) := by decide +kernel
theorem dX6_init_93 : decode cX6_init 93 = .ok (.goto (-38), 3) := by decide +kernel
theorem dX6_init_96 : decode cX6_init 96 = .ok (.aload_n 0, 1) := by decide +kernel
theorem dX6_init_97 : decode cX6_init 97 = .ok (.new 38, 3) := by decide +kernel
theorem dX6_init_100 : decode cX6_init 100 = .ok (.dup, 1) := by decide +kernel
theorem dX6_init_101 : decode cX6_init 101 = .ok (.invokespecial 40, 3) := by decide +kernel
theorem dX6_init_104 : decode cX6_init 104 = .ok (.putfield 41, 3) := by decide +kernel
theorem dX6_init_107 : decode cX6_init 107 = .ok (.aload_n 0, 1) := by decide +kernel
theorem dX6_init_108 : decode cX6_init 108 = .ok (.new 38, 3) := by decide +kernel
theorem dX6_init_111 : decode cX6_init 111 = .ok (.dup, 1) := by decide +kernel
theorem dX6_init_112 : decode cX6_init 112 = .ok (.invokespecial 40, 3) := by decide +kernel
theorem dX6_init_115 : decode cX6_init 115 = .ok (.putfield 45, 3) := by decide +kernel
theorem dX6_init_118 : decode cX6_init 118 = .ok (.aload_n 0, 1) := by decide +kernel
theorem dX6_init_119 : decode cX6_init 119 = .ok (.new 48, 3) := by decide +kernel
theorem dX6_init_122 : decode cX6_init 122 = .ok (.dup, 1) := by decide +kernel
theorem dX6_init_123 : decode cX6_init 123 = .ok (.invokespecial 50, 3) := by decide +kernel
theorem dX6_init_126 : decode cX6_init 126 = .ok (.putfield 51, 3) := by decide +kernel
theorem dX6_init_129 : decode cX6_init 129 = .ok (.aload_n 0, 1) := by decide +kernel
theorem dX6_init_130 : decode cX6_init 130 = .ok (.new 26, 3) := by decide +kernel
theorem dX6_init_133 : decode cX6_init 133 = .ok (.dup, 1) := by decide +kernel
theorem dX6_init_134 : decode cX6_init 134 = .ok (.sipush 128, 3) := by decide +kernel
theorem dX6_init_137 : decode cX6_init 137 = .ok (.invokespecial 35, 3) := by decide +kernel
theorem dX6_init_140 : decode cX6_init 140 = .ok (.putfield 55, 3) := by decide +kernel
theorem dX6_init_143 : decode cX6_init 143 = .ok (.aload_n 0, 1) := by decide +kernel
theorem dX6_init_144 : decode cX6_init 144 = .ok (.new 59, 3) := by decide +kernel
theorem dX6_init_147 : decode cX6_init 147 = .ok (.dup, 1) := by decide +kernel
theorem dX6_init_148 : decode cX6_init 148 = .ok (.invokespecial 61, 3) := by decide +kernel
theorem dX6_init_151 : decode cX6_init 151 = .ok (.putfield 62, 3) := by decide +kernel
theorem dX6_init_154 : decode cX6_init 154 = .ok (.aload_n 0, 1) := by decide +kernel
theorem dX6_init_155 : decode cX6_init 155 = .ok (.iconst 0, 1) := by decide +kernel
theorem dX6_init_156 : decode cX6_init 156 = .ok (.putfield 66, 3) := by decide +kernel
theorem dX6_init_159 : decode cX6_init 159 = .ok (.aload_n 0, 1) := by decide +kernel
theorem dX6_init_160 : decode cX6_init 160 = .ok (.iconst 0, 1) := by decide +kernel
theorem dX6_init_161 : decode cX6_init 161 = .ok (.putfield 70, 3) := by decide +kernel
theorem dX6_init_164 : decode cX6_init 164 = .ok (.return_, 1) := by decide +kernel
theorem dX6_letter_0 : decode cX6_letter 0 = .ok (.iload_n 1, 1) := by decide +kernel
theorem dX6_letter_1 : decode cX6_letter 1 = .ok (.iconst 1, 1) := by decide +kernel
theorem dX6_letter_2 : decode cX6_letter 2 = .ok (.if_icmp .lt 9, 3) := by decide +kernel
theorem dX6_letter_5 : decode cX6_letter 5 = .ok (.iload_n 1, 1) := by decide +kernel
theorem dX6_letter_6 : decode cX6_letter 6 = .ok (.bipush 126, 2) := by decide +kernel
theorem dX6_letter_8 : decode cX6_letter 8 = .ok (.if_icmp .le 6, 3) := by decide +kernel
theorem dX6_letter_11 : decode cX6_letter 11 = .ok (.bipush (-102), 2) := by decide +kernel
theorem dX6_letter_13 : decode cX6_letter 13 = .ok (.ireturn, 1) := by decide +kernel
theorem dX6_letter_14 : decode cX6_letter 14 = .ok (.aload_n 0, 1) := by decide +kernel
theorem dX6_letter_15 : decode cX6_letter 15 = .ok (.getfield 12, 3) := by decide +kernel
theorem dX6_letter_18 : decode cX6_letter 18 = .ok (.iload_n 1, 1) := by decide +kernel
theorem dX6_letter_19 : decode cX6_letter 19 = .ok (.invokevirtual 74, 3) := by decide +kernel
theorem dX6_letter_22 : decode cX6_letter 22 = .ok (.ifCond .eq 13, 3) := by decide +kernel
theorem dX6_letter_25 : decode cX6_letter 25 = .ok (.aload_n 0, 1) := by decide +kernel
theorem dX6_letter_26 : decode cX6_letter 26 = .ok (.getfield 12, 3) := by decide +kernel
theorem dX6_letter_29 : decode cX6_letter 29 = .ok (.invokevirtual 78, 3) := by decide +kernel
theorem dX6_letter_32 : decode cX6_letter 32 = .ok (.goto 5, 3) := by decide +kernel
theorem dX6_letter_35 : decode cX6_letter 35 = .ok (.bipush (-104), 2) := by decide +kernel
theorem dX6_letter_37 : decode cX6_letter 37 = .ok (.ireturn, 1) := by decide +kernel
theorem dX6_blank_0 : decode cX6_blank 0 = .ok (.aload_n 0, 1) := by decide +kernel
theorem dX6_blank_1 : decode cX6_blank 1 = .ok (.getfield 12, 3) := by decide +kernel
theorem dX6_blank_4 : decode cX6_blank 4 = .ok (.invokevirtual 78, 3) := by decide +kernel
theorem dX6_blank_7 : decode cX6_blank 7 = .ok (.istore_n 1, 1) := by decide +kernel
theorem dX6_blank_8 : decode cX6_blank 8 = .ok (.aload_n 0, 1) := by decide +kernel
theorem dX6_blank_9 : decode cX6_blank 9 = .ok (.getfield 12, 3) := by decide +kernel
theorem dX6_blank_12 : decode cX6_blank 12 = .ok (.invokevirtual 82, 3) := by decide +kernel
theorem dX6_blank_15 : decode cX6_blank 15 = .ok (.iload_n 1, 1) := by decide +kernel
theorem dX6_blank_16 : decode cX6_blank 16 = .ok (.ireturn, 1) := by decide +kernel
theorem dX6_fault_0 : decode cX6_fault 0 = .ok (.aload_n 0, 1) := by decide +kernel
theorem dX6_fault_1 : decode cX6_fault 1 = .ok (.getfield 12, 3) := by decide +kernel
theorem dX6_fault_4 : decode cX6_fault 4 = .ok (.invokevirtual 85, 3) := by decide +kernel
theorem dX6_fault_7 : decode cX6_fault 7 = .ok (.ireturn, 1) := by decide +kernel
theorem dX6_machine_0 : decode cX6_machine 0 = .ok (.aload_n 0, 1) := by decide +kernel
theorem dX6_machine_1 : decode cX6_machine 1 = .ok (.getfield 12, 3) := by decide +kernel
theorem dX6_machine_4 : decode cX6_machine 4 = .ok (.invokevirtual 88, 3) := by decide +kernel
theorem dX6_machine_7 : decode cX6_machine 7 = .ok (.ifCond .ne 6, 3) := by decide +kernel
theorem dX6_machine_10 : decode cX6_machine 10 = .ok (.bipush (-103), 2) := by decide +kernel
theorem dX6_machine_12 : decode cX6_machine 12 = .ok (.ireturn, 1) := by decide +kernel
theorem dX6_machine_13 : decode cX6_machine 13 = .ok (.aload_n 0, 1) := by decide +kernel
theorem dX6_machine_14 : decode cX6_machine 14 = .ok (.getfield 19, 3) := by decide +kernel
theorem dX6_machine_17 : decode cX6_machine 17 = .ok (.aload_n 0, 1) := by decide +kernel
theorem dX6_machine_18 : decode cX6_machine 18 = .ok (.getfield 12, 3) := by decide +kernel
theorem dX6_machine_21 : decode cX6_machine 21 = .ok (.invokevirtual 92, 3) := by decide +kernel
theorem dX6_machine_24 : decode cX6_machine 24 = .ok (.aload_n 0, 1) := by decide +kernel
theorem dX6_machine_25 : decode cX6_machine 25 = .ok (.getfield 12, 3) := by decide +kernel
theorem dX6_machine_28 : decode cX6_machine 28 = .ok (.invokevirtual 82, 3) := by decide +kernel
theorem dX6_machine_31 : decode cX6_machine 31 = .ok (.iconst 0, 1) := by decide +kernel
theorem dX6_machine_32 : decode cX6_machine 32 = .ok (.istore_n 1, 1) := by decide +kernel
theorem dX6_machine_33 : decode cX6_machine 33 = .ok (.iload_n 1, 1) := by decide +kernel
theorem dX6_machine_34 : decode cX6_machine 34 = .ok (.iconst 3, 1) := by decide +kernel
theorem dX6_machine_35 : decode cX6_machine 35 = .ok (.if_icmp .ge 18, 3) := by decide +kernel
theorem dX6_machine_38 : decode cX6_machine 38 = .ok (.aload_n 0, 1) := by decide +kernel
theorem dX6_machine_39 : decode cX6_machine 39 = .ok (.getfield 28, 3) := by decide +kernel
theorem dX6_machine_42 : decode cX6_machine 42 = .ok (.iload_n 1, 1) := by decide +kernel
theorem dX6_machine_43 : decode cX6_machine 43 = .ok (.aaload, 1) := by decide +kernel
theorem dX6_machine_44 : decode cX6_machine 44 = .ok (.invokevirtual 96, 3) := by decide +kernel
theorem dX6_machine_47 : decode cX6_machine 47 = .ok (.iinc 1 1, 3) := by decide +kernel
theorem dX6_machine_50 : decode cX6_machine 50 = .ok (.goto (-17), 3) := by decide +kernel
theorem dX6_machine_53 : decode cX6_machine 53 = .ok (.aload_n 0, 1) := by decide +kernel
theorem dX6_machine_54 : decode cX6_machine 54 = .ok (.getfield 41, 3) := by decide +kernel
theorem dX6_machine_57 : decode cX6_machine 57 = .ok (.invokevirtual 97, 3) := by decide +kernel
theorem dX6_machine_60 : decode cX6_machine 60 = .ok (.aload_n 0, 1) := by decide +kernel
theorem dX6_machine_61 : decode cX6_machine 61 = .ok (.iconst 0, 1) := by decide +kernel
theorem dX6_machine_62 : decode cX6_machine 62 = .ok (.putfield 66, 3) := by decide +kernel
theorem dX6_machine_65 : decode cX6_machine 65 = .ok (.aload_n 0, 1) := by decide +kernel
theorem dX6_machine_66 : decode cX6_machine 66 = .ok (.dup, 1) := by decide +kernel
theorem dX6_machine_67 : decode cX6_machine 67 = .ok (.getfield 70, 3) := by decide +kernel
theorem dX6_machine_70 : decode cX6_machine 70 = .ok (.iconst 1, 1) := by decide +kernel
theorem dX6_machine_71 : decode cX6_machine 71 = .ok (.iadd, 1) := by decide +kernel
theorem dX6_machine_72 : decode cX6_machine 72 = .ok (.putfield 70, 3) := by decide +kernel
theorem dX6_machine_75 : decode cX6_machine 75 = .ok (.aload_n 0, 1) := by decide +kernel
theorem dX6_machine_76 : decode cX6_machine 76 = .ok (.getfield 19, 3) := by decide +kernel
theorem dX6_machine_79 : decode cX6_machine 79 = .ok (.invokevirtual 98, 3) := by decide +kernel
theorem dX6_machine_82 : decode cX6_machine 82 = .ok (.ireturn, 1) := by decide +kernel
theorem dX6_word_0 : decode cX6_word 0 = .ok (.aload_n 0, 1) := by decide +kernel
theorem dX6_word_1 : decode cX6_word 1 = .ok (.iload_n 1, 1) := by decide +kernel
theorem dX6_word_2 : decode cX6_word 2 = .ok (.invokevirtual 99, 3) := by decide +kernel
theorem dX6_word_5 : decode cX6_word 5 = .ok (.ifCond .ne 6, 3) := by decide +kernel
theorem dX6_word_8 : decode cX6_word 8 = .ok (.bipush (-101), 2) := by decide +kernel
theorem dX6_word_10 : decode cX6_word 10 = .ok (.ireturn, 1) := by decide +kernel
theorem dX6_word_11 : decode cX6_word 11 = .ok (.aload_n 0, 1) := by decide +kernel
theorem dX6_word_12 : decode cX6_word 12 = .ok (.invokevirtual 102, 3) := by decide +kernel
theorem dX6_word_15 : decode cX6_word 15 = .ok (.ifCond .ne 6, 3) := by decide +kernel
theorem dX6_word_18 : decode cX6_word 18 = .ok (.bipush (-103), 2) := by decide +kernel
theorem dX6_word_20 : decode cX6_word 20 = .ok (.ireturn, 1) := by decide +kernel
theorem dX6_word_21 : decode cX6_word 21 = .ok (.aload_n 0, 1) := by decide +kernel
theorem dX6_word_22 : decode cX6_word 22 = .ok (.getfield 28, 3) := by decide +kernel
theorem dX6_word_25 : decode cX6_word 25 = .ok (.iload_n 1, 1) := by decide +kernel
theorem dX6_word_26 : decode cX6_word 26 = .ok (.aaload, 1) := by decide +kernel
theorem dX6_word_27 : decode cX6_word 27 = .ok (.astore_n 2, 1) := by decide +kernel
theorem dX6_word_28 : decode cX6_word 28 = .ok (.aload_n 2, 1) := by decide +kernel
theorem dX6_word_29 : decode cX6_word 29 = .ok (.invokevirtual 96, 3) := by decide +kernel
theorem dX6_word_32 : decode cX6_word 32 = .ok (.iconst 0, 1) := by decide +kernel
theorem dX6_word_33 : decode cX6_word 33 = .ok (.istore_n 3, 1) := by decide +kernel
theorem dX6_word_34 : decode cX6_word 34 = .ok (.iload_n 3, 1) := by decide +kernel
theorem dX6_word_35 : decode cX6_word 35 = .ok (.aload_n 0, 1) := by decide +kernel
theorem dX6_word_36 : decode cX6_word 36 = .ok (.getfield 12, 3) := by decide +kernel
theorem dX6_word_39 : decode cX6_word 39 = .ok (.invokevirtual 78, 3) := by decide +kernel
theorem dX6_word_42 : decode cX6_word 42 = .ok (.if_icmp .ge 24, 3) := by decide +kernel
theorem dX6_word_45 : decode cX6_word 45 = .ok (.aload_n 2, 1) := by decide +kernel
theorem dX6_word_46 : decode cX6_word 46 = .ok (.aload_n 0, 1) := by decide +kernel
theorem dX6_word_47 : decode cX6_word 47 = .ok (.getfield 12, 3) := by decide +kernel
theorem dX6_word_50 : decode cX6_word 50 = .ok (.iload_n 3, 1) := by decide +kernel
theorem dX6_word_51 : decode cX6_word 51 = .ok (.invokevirtual 105, 3) := by decide +kernel
theorem dX6_word_54 : decode cX6_word 54 = .ok (.invokestatic 109, 3) := by decide +kernel
theorem dX6_word_57 : decode cX6_word 57 = .ok (.invokevirtual 112, 3) := by decide +kernel
theorem dX6_word_60 : decode cX6_word 60 = .ok (.iinc 3 1, 3) := by decide +kernel
theorem dX6_word_63 : decode cX6_word 63 = .ok (.goto (-29), 3) := by decide +kernel
theorem dX6_word_66 : decode cX6_word 66 = .ok (.aload_n 0, 1) := by decide +kernel
theorem dX6_word_67 : decode cX6_word 67 = .ok (.getfield 12, 3) := by decide +kernel
theorem dX6_word_70 : decode cX6_word 70 = .ok (.invokevirtual 82, 3) := by decide +kernel
theorem dX6_word_73 : decode cX6_word 73 = .ok (.aload_n 2, 1) := by decide +kernel
theorem dX6_word_74 : decode cX6_word 74 = .ok (.invokevirtual 115, 3) := by decide +kernel
theorem dX6_word_77 : decode cX6_word 77 = .ok (.ireturn, 1) := by decide +kernel
theorem dX6_state_0 : decode cX6_state 0 = .ok (.aload_n 0, 1) := by decide +kernel
theorem dX6_state_1 : decode cX6_state 1 = .ok (.getfield 19, 3) := by decide +kernel
theorem dX6_state_4 : decode cX6_state 4 = .ok (.iload_n 1, 1) := by decide +kernel
theorem dX6_state_5 : decode cX6_state 5 = .ok (.invokevirtual 116, 3) := by decide +kernel
theorem dX6_state_8 : decode cX6_state 8 = .ok (.ifCond .ne 6, 3) := by decide +kernel
theorem dX6_state_11 : decode cX6_state 11 = .ok (.bipush (-101), 2) := by decide +kernel
theorem dX6_state_13 : decode cX6_state 13 = .ok (.ireturn, 1) := by decide +kernel
theorem dX6_state_14 : decode cX6_state 14 = .ok (.iload_n 2, 1) := by decide +kernel
theorem dX6_state_15 : decode cX6_state 15 = .ok (.tableswitch 130 0 7 #[45, 54, 64, 74, 83, 100, 109, 118], 45) := by decide +kernel
theorem dX6_state_60 : decode cX6_state 60 = .ok (.aload_n 0, 1) := by decide +kernel
theorem dX6_state_61 : decode cX6_state 61 = .ok (.getfield 19, 3) := by decide +kernel
theorem dX6_state_64 : decode cX6_state 64 = .ok (.iload_n 1, 1) := by decide +kernel
theorem dX6_state_65 : decode cX6_state 65 = .ok (.invokevirtual 119, 3) := by decide +kernel
theorem dX6_state_68 : decode cX6_state 68 = .ok (.ireturn, 1) := by decide +kernel
theorem dX6_state_69 : decode cX6_state 69 = .ok (.aload_n 0, 1) := by decide +kernel
theorem dX6_state_70 : decode cX6_state 70 = .ok (.getfield 19, 3) := by decide +kernel
theorem dX6_state_73 : decode cX6_state 73 = .ok (.iload_n 1, 1) := by decide +kernel
theorem dX6_state_74 : decode cX6_state 74 = .ok (.iconst 0, 1) := by decide +kernel
theorem dX6_state_75 : decode cX6_state 75 = .ok (.invokevirtual 122, 3) := by decide +kernel
theorem dX6_state_78 : decode cX6_state 78 = .ok (.ireturn, 1) := by decide +kernel
theorem dX6_state_79 : decode cX6_state 79 = .ok (.aload_n 0, 1) := by decide +kernel
theorem dX6_state_80 : decode cX6_state 80 = .ok (.getfield 19, 3) := by decide +kernel
theorem dX6_state_83 : decode cX6_state 83 = .ok (.iload_n 1, 1) := by decide +kernel
theorem dX6_state_84 : decode cX6_state 84 = .ok (.iconst 1, 1) := by decide +kernel
theorem dX6_state_85 : decode cX6_state 85 = .ok (.invokevirtual 122, 3) := by decide +kernel
theorem dX6_state_88 : decode cX6_state 88 = .ok (.ireturn, 1) := by decide +kernel
theorem dX6_state_89 : decode cX6_state 89 = .ok (.aload_n 0, 1) := by decide +kernel
theorem dX6_state_90 : decode cX6_state 90 = .ok (.getfield 19, 3) := by decide +kernel
theorem dX6_state_93 : decode cX6_state 93 = .ok (.iload_n 1, 1) := by decide +kernel
theorem dX6_state_94 : decode cX6_state 94 = .ok (.invokevirtual 126, 3) := by decide +kernel
theorem dX6_state_97 : decode cX6_state 97 = .ok (.ireturn, 1) := by decide +kernel
theorem dX6_state_98 : decode cX6_state 98 = .ok (.aload_n 0, 1) := by decide +kernel
theorem dX6_state_99 : decode cX6_state 99 = .ok (.getfield 19, 3) := by decide +kernel
theorem dX6_state_102 : decode cX6_state 102 = .ok (.iload_n 1, 1) := by decide +kernel
theorem dX6_state_103 : decode cX6_state 103 = .ok (.invokevirtual 129, 3) := by decide +kernel
theorem dX6_state_106 : decode cX6_state 106 = .ok (.ifCond .eq 7, 3) := by decide +kernel
theorem dX6_state_109 : decode cX6_state 109 = .ok (.iconst 1, 1) := by decide +kernel
theorem dX6_state_110 : decode cX6_state 110 = .ok (.goto 4, 3) := by decide +kernel
theorem dX6_state_113 : decode cX6_state 113 = .ok (.iconst 0, 1) := by decide +kernel
theorem dX6_state_114 : decode cX6_state 114 = .ok (.ireturn, 1) := by decide +kernel
theorem dX6_state_115 : decode cX6_state 115 = .ok (.aload_n 0, 1) := by decide +kernel
theorem dX6_state_116 : decode cX6_state 116 = .ok (.getfield 19, 3) := by decide +kernel
theorem dX6_state_119 : decode cX6_state 119 = .ok (.iload_n 1, 1) := by decide +kernel
theorem dX6_state_120 : decode cX6_state 120 = .ok (.invokevirtual 132, 3) := by decide +kernel
theorem dX6_state_123 : decode cX6_state 123 = .ok (.ireturn, 1) := by decide +kernel
theorem dX6_state_124 : decode cX6_state 124 = .ok (.aload_n 0, 1) := by decide +kernel
theorem dX6_state_125 : decode cX6_state 125 = .ok (.getfield 41, 3) := by decide +kernel
theorem dX6_state_128 : decode cX6_state 128 = .ok (.iload_n 1, 1) := by decide +kernel
theorem dX6_state_129 : decode cX6_state 129 = .ok (.invokevirtual 135, 3) := by decide +kernel
theorem dX6_state_132 : decode cX6_state 132 = .ok (.ireturn, 1) := by decide +kernel
theorem dX6_state_133 : decode cX6_state 133 = .ok (.aload_n 0, 1) := by decide +kernel
theorem dX6_state_134 : decode cX6_state 134 = .ok (.getfield 41, 3) := by decide +kernel
theorem dX6_state_137 : decode cX6_state 137 = .ok (.iload_n 1, 1) := by decide +kernel
theorem dX6_state_138 : decode cX6_state 138 = .ok (.invokevirtual 135, 3) := by decide +kernel
theorem dX6_state_141 : decode cX6_state 141 = .ok (.invokestatic 138, 3) := by decide +kernel
theorem dX6_state_144 : decode cX6_state 144 = .ok (.ireturn, 1) := by decide +kernel
theorem dX6_state_145 : decode cX6_state 145 = .ok (.bipush (-102), 2) := by decide +kernel
theorem dX6_state_147 : decode cX6_state 147 = .ok (.ireturn, 1) := by decide +kernel
theorem dX6_as_0 : decode cX6_as 0 = .ok (.aload_n 0, 1) := by decide +kernel
theorem dX6_as_1 : decode cX6_as 1 = .ok (.getfield 19, 3) := by decide +kernel
theorem dX6_as_4 : decode cX6_as 4 = .ok (.iload_n 1, 1) := by decide +kernel
theorem dX6_as_5 : decode cX6_as 5 = .ok (.invokevirtual 116, 3) := by decide +kernel
theorem dX6_as_8 : decode cX6_as 8 = .ok (.ifCond .ne 6, 3) := by decide +kernel
theorem dX6_as_11 : decode cX6_as 11 = .ok (.bipush (-101), 2) := by decide +kernel
theorem dX6_as_13 : decode cX6_as 13 = .ok (.ireturn, 1) := by decide +kernel
theorem dX6_as_14 : decode cX6_as 14 = .ok (.iload_n 2, 1) := by decide +kernel
theorem dX6_as_15 : decode cX6_as 15 = .ok (.invokestatic 141, 3) := by decide +kernel
theorem dX6_as_18 : decode cX6_as 18 = .ok (.ifCond .ne 6, 3) := by decide +kernel
theorem dX6_as_21 : decode cX6_as 21 = .ok (.bipush (-102), 2) := by decide +kernel
theorem dX6_as_23 : decode cX6_as 23 = .ok (.ireturn, 1) := by decide +kernel
theorem dX6_as_24 : decode cX6_as 24 = .ok (.aload_n 0, 1) := by decide +kernel
theorem dX6_as_25 : decode cX6_as 25 = .ok (.getfield 19, 3) := by decide +kernel
theorem dX6_as_28 : decode cX6_as 28 = .ok (.iload_n 1, 1) := by decide +kernel
theorem dX6_as_29 : decode cX6_as 29 = .ok (.invokevirtual 119, 3) := by decide +kernel
theorem dX6_as_32 : decode cX6_as 32 = .ok (.istore_n 3, 1) := by decide +kernel
theorem dX6_as_33 : decode cX6_as 33 = .ok (.iload_n 3, 1) := by decide +kernel
theorem dX6_as_34 : decode cX6_as 34 = .ok (.iload_n 2, 1) := by decide +kernel
theorem dX6_as_35 : decode cX6_as 35 = .ok (.if_icmp .eq 17, 3) := by decide +kernel
theorem dX6_as_38 : decode cX6_as 38 = .ok (.iload_n 2, 1) := by decide +kernel
theorem dX6_as_39 : decode cX6_as 39 = .ok (.ifCond .eq 13, 3) := by decide +kernel
theorem dX6_as_42 : decode cX6_as 42 = .ok (.iload_n 3, 1) := by decide +kernel
theorem dX6_as_43 : decode cX6_as 43 = .ok (.iconst 2, 1) := by decide +kernel
theorem dX6_as_44 : decode cX6_as 44 = .ok (.if_icmp .ne 12, 3) := by decide +kernel
theorem dX6_as_47 : decode cX6_as 47 = .ok (.iload_n 2, 1) := by decide +kernel
theorem dX6_as_48 : decode cX6_as 48 = .ok (.iconst 1, 1) := by decide +kernel
theorem dX6_as_49 : decode cX6_as 49 = .ok (.if_icmp .ne 7, 3) := by decide +kernel
theorem dX6_as_52 : decode cX6_as 52 = .ok (.iconst 1, 1) := by decide +kernel
theorem dX6_as_53 : decode cX6_as 53 = .ok (.goto 4, 3) := by decide +kernel
theorem dX6_as_56 : decode cX6_as 56 = .ok (.iconst 0, 1) := by decide +kernel
theorem dX6_as_57 : decode cX6_as 57 = .ok (.istore 4, 2) := by decide +kernel
theorem dX6_as_59 : decode cX6_as 59 = .ok (.iload 4, 2) := by decide +kernel
theorem dX6_as_61 : decode cX6_as 61 = .ok (.ifCond .eq 7, 3) := by decide +kernel
theorem dX6_as_64 : decode cX6_as 64 = .ok (.iload_n 1, 1) := by decide +kernel
theorem dX6_as_65 : decode cX6_as 65 = .ok (.goto 4, 3) := by decide +kernel
theorem dX6_as_68 : decode cX6_as 68 = .ok (.iconst (-1), 1) := by decide +kernel
theorem dX6_as_69 : decode cX6_as 69 = .ok (.ireturn, 1) := by decide +kernel
theorem dX6_sign_0 : decode cX6_sign 0 = .ok (.iload_n 1, 1) := by decide +kernel
theorem dX6_sign_1 : decode cX6_sign 1 = .ok (.invokestatic 144, 3) := by decide +kernel
theorem dX6_sign_4 : decode cX6_sign 4 = .ok (.ifCond .eq 20, 3) := by decide +kernel
theorem dX6_sign_7 : decode cX6_sign 7 = .ok (.iload_n 2, 1) := by decide +kernel
theorem dX6_sign_8 : decode cX6_sign 8 = .ok (.ifCond .lt 16, 3) := by decide +kernel
theorem dX6_sign_11 : decode cX6_sign 11 = .ok (.iload_n 2, 1) := by decide +kernel
theorem dX6_sign_12 : decode cX6_sign 12 = .ok (.aload_n 0, 1) := by decide +kernel
theorem dX6_sign_13 : decode cX6_sign 13 = .ok (.getfield 28, 3) := by decide +kernel
theorem dX6_sign_16 : decode cX6_sign 16 = .ok (.iload_n 1, 1) := by decide +kernel
theorem dX6_sign_17 : decode cX6_sign 17 = .ok (.aaload, 1) := by decide +kernel
theorem dX6_sign_18 : decode cX6_sign 18 = .ok (.invokevirtual 115, 3) := by decide +kernel
theorem dX6_sign_21 : decode cX6_sign 21 = .ok (.if_icmp .lt 6, 3) := by decide +kernel
theorem dX6_sign_24 : decode cX6_sign 24 = .ok (.bipush (-101), 2) := by decide +kernel
theorem dX6_sign_26 : decode cX6_sign 26 = .ok (.ireturn, 1) := by decide +kernel
theorem dX6_sign_27 : decode cX6_sign 27 = .ok (.aload_n 0, 1) := by decide +kernel
theorem dX6_sign_28 : decode cX6_sign 28 = .ok (.getfield 28, 3) := by decide +kernel
theorem dX6_sign_31 : decode cX6_sign 31 = .ok (.iload_n 1, 1) := by decide +kernel
theorem dX6_sign_32 : decode cX6_sign 32 = .ok (.aaload, 1) := by decide +kernel
theorem dX6_sign_33 : decode cX6_sign 33 = .ok (.iload_n 2, 1) := by decide +kernel
theorem dX6_sign_34 : decode cX6_sign 34 = .ok (.invokevirtual 147, 3) := by decide +kernel
theorem dX6_sign_37 : decode cX6_sign 37 = .ok (.invokestatic 150, 3) := by decide +kernel
theorem dX6_sign_40 : decode cX6_sign 40 = .ok (.ireturn, 1) := by decide +kernel
theorem dX6_act_0 : decode cX6_act 0 = .ok (.aload_n 0, 1) := by decide +kernel
theorem dX6_act_1 : decode cX6_act 1 = .ok (.iload_n 1, 1) := by decide +kernel
theorem dX6_act_2 : decode cX6_act 2 = .ok (.invokevirtual 99, 3) := by decide +kernel
theorem dX6_act_5 : decode cX6_act 5 = .ok (.ifCond .ne 6, 3) := by decide +kernel
theorem dX6_act_8 : decode cX6_act 8 = .ok (.bipush (-101), 2) := by decide +kernel
theorem dX6_act_10 : decode cX6_act 10 = .ok (.ireturn, 1) := by decide +kernel
theorem dX6_act_11 : decode cX6_act 11 = .ok (.iload_n 2, 1) := by decide +kernel
theorem dX6_act_12 : decode cX6_act 12 = .ok (.iload_n 3, 1) := by decide +kernel
theorem dX6_act_13 : decode cX6_act 13 = .ok (.bipush 12, 2) := by decide +kernel
theorem dX6_act_15 : decode cX6_act 15 = .ok (.invokestatic 153, 3) := by decide +kernel
theorem dX6_act_18 : decode cX6_act 18 = .ok (.ifCond .ne 6, 3) := by decide +kernel
theorem dX6_act_21 : decode cX6_act 21 = .ok (.bipush (-102), 2) := by decide +kernel
theorem dX6_act_23 : decode cX6_act 23 = .ok (.ireturn, 1) := by decide +kernel
theorem dX6_act_24 : decode cX6_act 24 = .ok (.aload_n 0, 1) := by decide +kernel
theorem dX6_act_25 : decode cX6_act 25 = .ok (.getfield 19, 3) := by decide +kernel
theorem dX6_act_28 : decode cX6_act 28 = .ok (.aload_n 0, 1) := by decide +kernel
theorem dX6_act_29 : decode cX6_act 29 = .ok (.getfield 28, 3) := by decide +kernel
theorem dX6_act_32 : decode cX6_act 32 = .ok (.iload_n 1, 1) := by decide +kernel
theorem dX6_act_33 : decode cX6_act 33 = .ok (.aaload, 1) := by decide +kernel
theorem dX6_act_34 : decode cX6_act 34 = .ok (.iload_n 2, 1) := by decide +kernel
theorem dX6_act_35 : decode cX6_act 35 = .ok (.iload_n 3, 1) := by decide +kernel
theorem dX6_act_36 : decode cX6_act 36 = .ok (.invokevirtual 157, 3) := by decide +kernel
theorem dX6_act_39 : decode cX6_act 39 = .ok (.ireturn, 1) := by decide +kernel
theorem dX6_flips_0 : decode cX6_flips 0 = .ok (.aload_n 0, 1) := by decide +kernel
theorem dX6_flips_1 : decode cX6_flips 1 = .ok (.iload_n 1, 1) := by decide +kernel
theorem dX6_flips_2 : decode cX6_flips 2 = .ok (.invokevirtual 99, 3) := by decide +kernel
theorem dX6_flips_5 : decode cX6_flips 5 = .ok (.ifCond .ne 6, 3) := by decide +kernel
theorem dX6_flips_8 : decode cX6_flips 8 = .ok (.bipush (-101), 2) := by decide +kernel
theorem dX6_flips_10 : decode cX6_flips 10 = .ok (.ireturn, 1) := by decide +kernel
theorem dX6_flips_11 : decode cX6_flips 11 = .ok (.iload_n 2, 1) := by decide +kernel
theorem dX6_flips_12 : decode cX6_flips 12 = .ok (.ifCond .lt 8, 3) := by decide +kernel
theorem dX6_flips_15 : decode cX6_flips 15 = .ok (.iload_n 2, 1) := by decide +kernel
theorem dX6_flips_16 : decode cX6_flips 16 = .ok (.iconst 4, 1) := by decide +kernel
theorem dX6_flips_17 : decode cX6_flips 17 = .ok (.if_icmp .le 6, 3) := by decide +kernel
theorem dX6_flips_20 : decode cX6_flips 20 = .ok (.bipush (-102), 2) := by decide +kernel
theorem dX6_flips_22 : decode cX6_flips 22 = .ok (.ireturn, 1) := by decide +kernel
theorem dX6_flips_23 : decode cX6_flips 23 = .ok (.iconst 0, 1) := by decide +kernel
theorem dX6_flips_24 : decode cX6_flips 24 = .ok (.istore_n 3, 1) := by decide +kernel
theorem dX6_flips_25 : decode cX6_flips 25 = .ok (.iconst 0, 1) := by decide +kernel
theorem dX6_flips_26 : decode cX6_flips 26 = .ok (.istore 4, 2) := by decide +kernel
theorem dX6_flips_28 : decode cX6_flips 28 = .ok (.iload 4, 2) := by decide +kernel
theorem dX6_flips_30 : decode cX6_flips 30 = .ok (.iconst 1, 1) := by decide +kernel
theorem dX6_flips_31 : decode cX6_flips 31 = .ok (.iload_n 2, 1) := by decide +kernel
theorem dX6_flips_32 : decode cX6_flips 32 = .ok (.ishl, 1) := by decide +kernel
theorem dX6_flips_33 : decode cX6_flips 33 = .ok (.if_icmp .ge 41, 3) := by decide +kernel
theorem dX6_flips_36 : decode cX6_flips 36 = .ok (.aload_n 0, 1) := by decide +kernel
theorem dX6_flips_37 : decode cX6_flips 37 = .ok (.getfield 19, 3) := by decide +kernel
theorem dX6_flips_40 : decode cX6_flips 40 = .ok (.aload_n 0, 1) := by decide +kernel
theorem dX6_flips_41 : decode cX6_flips 41 = .ok (.getfield 28, 3) := by decide +kernel
theorem dX6_flips_44 : decode cX6_flips 44 = .ok (.iload_n 1, 1) := by decide +kernel
theorem dX6_flips_45 : decode cX6_flips 45 = .ok (.aaload, 1) := by decide +kernel
theorem dX6_flips_46 : decode cX6_flips 46 = .ok (.iload 4, 2) := by decide +kernel
theorem dX6_flips_48 : decode cX6_flips 48 = .ok (.iconst 1, 1) := by decide +kernel
theorem dX6_flips_49 : decode cX6_flips 49 = .ok (.ishl, 1) := by decide +kernel
theorem dX6_flips_50 : decode cX6_flips 50 = .ok (.iload_n 2, 1) := by decide +kernel
theorem dX6_flips_51 : decode cX6_flips 51 = .ok (.iconst 1, 1) := by decide +kernel
theorem dX6_flips_52 : decode cX6_flips 52 = .ok (.iadd, 1) := by decide +kernel
theorem dX6_flips_53 : decode cX6_flips 53 = .ok (.invokevirtual 157, 3) := by decide +kernel
theorem dX6_flips_56 : decode cX6_flips 56 = .ok (.istore 5, 2) := by decide +kernel
theorem dX6_flips_58 : decode cX6_flips 58 = .ok (.iload_n 3, 1) := by decide +kernel
theorem dX6_flips_59 : decode cX6_flips 59 = .ok (.iload 5, 2) := by decide +kernel
theorem dX6_flips_61 : decode cX6_flips 61 = .ok (.iconst 1, 1) := by decide +kernel
theorem dX6_flips_62 : decode cX6_flips 62 = .ok (.iand, 1) := by decide +kernel
theorem dX6_flips_63 : decode cX6_flips 63 = .ok (.iload 4, 2) := by decide +kernel
theorem dX6_flips_65 : decode cX6_flips 65 = .ok (.ishl, 1) := by decide +kernel
theorem dX6_flips_66 : decode cX6_flips 66 = .ok (.ior, 1) := by decide +kernel
theorem dX6_flips_67 : decode cX6_flips 67 = .ok (.istore_n 3, 1) := by decide +kernel
theorem dX6_flips_68 : decode cX6_flips 68 = .ok (.iinc 4 1, 3) := by decide +kernel
theorem dX6_flips_71 : decode cX6_flips 71 = .ok (.goto (-43), 3) := by decide +kernel
theorem dX6_flips_74 : decode cX6_flips 74 = .ok (.iload_n 3, 1) := by decide +kernel
theorem dX6_flips_75 : decode cX6_flips 75 = .ok (.ireturn, 1) := by decide +kernel
theorem dX6_round_0 : decode cX6_round 0 = .ok (.aload_n 0, 1) := by decide +kernel
theorem dX6_round_1 : decode cX6_round 1 = .ok (.iload_n 1, 1) := by decide +kernel
theorem dX6_round_2 : decode cX6_round 2 = .ok (.invokevirtual 99, 3) := by decide +kernel
theorem dX6_round_5 : decode cX6_round 5 = .ok (.ifCond .ne 6, 3) := by decide +kernel
theorem dX6_round_8 : decode cX6_round 8 = .ok (.bipush (-101), 2) := by decide +kernel
theorem dX6_round_10 : decode cX6_round 10 = .ok (.ireturn, 1) := by decide +kernel
theorem dX6_round_11 : decode cX6_round 11 = .ok (.iload_n 2, 1) := by decide +kernel
theorem dX6_round_12 : decode cX6_round 12 = .ok (.iload_n 3, 1) := by decide +kernel
theorem dX6_round_13 : decode cX6_round 13 = .ok (.bipush 8, 2) := by decide +kernel
theorem dX6_round_15 : decode cX6_round 15 = .ok (.invokestatic 153, 3) := by decide +kernel
theorem dX6_round_18 : decode cX6_round 18 = .ok (.ifCond .ne 6, 3) := by decide +kernel
theorem dX6_round_21 : decode cX6_round 21 = .ok (.bipush (-102), 2) := by decide +kernel
theorem dX6_round_23 : decode cX6_round 23 = .ok (.ireturn, 1) := by decide +kernel
theorem dX6_round_24 : decode cX6_round 24 = .ok (.iload_n 2, 1) := by decide +kernel
theorem dX6_round_25 : decode cX6_round 25 = .ok (.istore 4, 2) := by decide +kernel
theorem dX6_round_27 : decode cX6_round 27 = .ok (.iconst 1, 1) := by decide +kernel
theorem dX6_round_28 : decode cX6_round 28 = .ok (.istore 5, 2) := by decide +kernel
theorem dX6_round_30 : decode cX6_round 30 = .ok (.iload 5, 2) := by decide +kernel
theorem dX6_round_32 : decode cX6_round 32 = .ok (.sipush 256, 3) := by decide +kernel
theorem dX6_round_35 : decode cX6_round 35 = .ok (.if_icmp .gt 36, 3) := by decide +kernel
theorem dX6_round_38 : decode cX6_round 38 = .ok (.aload_n 0, 1) := by decide +kernel
theorem dX6_round_39 : decode cX6_round 39 = .ok (.getfield 19, 3) := by decide +kernel
theorem dX6_round_42 : decode cX6_round 42 = .ok (.aload_n 0, 1) := by decide +kernel
theorem dX6_round_43 : decode cX6_round 43 = .ok (.getfield 28, 3) := by decide +kernel
theorem dX6_round_46 : decode cX6_round 46 = .ok (.iload_n 1, 1) := by decide +kernel
theorem dX6_round_47 : decode cX6_round 47 = .ok (.aaload, 1) := by decide +kernel
theorem dX6_round_48 : decode cX6_round 48 = .ok (.iload 4, 2) := by decide +kernel
theorem dX6_round_50 : decode cX6_round 50 = .ok (.iload_n 3, 1) := by decide +kernel
theorem dX6_round_51 : decode cX6_round 51 = .ok (.invokevirtual 157, 3) := by decide +kernel
theorem dX6_round_54 : decode cX6_round 54 = .ok (.istore 4, 2) := by decide +kernel
theorem dX6_round_56 : decode cX6_round 56 = .ok (.iload 4, 2) := by decide +kernel
theorem dX6_round_58 : decode cX6_round 58 = .ok (.iload_n 2, 1) := by decide +kernel
theorem dX6_round_59 : decode cX6_round 59 = .ok (.if_icmp .ne 6, 3) := by decide +kernel
theorem dX6_round_62 : decode cX6_round 62 = .ok (.iload 5, 2) := by decide +kernel
theorem dX6_round_64 : decode cX6_round 64 = .ok (.ireturn, 1) := by decide +kernel
theorem dX6_round_65 : decode cX6_round 65 = .ok (.iinc 5 1, 3) := by decide +kernel
theorem dX6_round_68 : decode cX6_round 68 = .ok (.goto (-38), 3) := by decide +kernel
theorem dX6_round_71 : decode cX6_round 71 = .ok (.iconst (-1), 1) := by decide +kernel
theorem dX6_round_72 : decode cX6_round 72 = .ok (.ireturn, 1) := by decide +kernel
theorem dX6_nothing_0 : decode cX6_nothing 0 = .ok (.aload_n 0, 1) := by decide +kernel
theorem dX6_nothing_1 : decode cX6_nothing 1 = .ok (.iload_n 1, 1) := by decide +kernel
theorem dX6_nothing_2 : decode cX6_nothing 2 = .ok (.invokevirtual 99, 3) := by decide +kernel
theorem dX6_nothing_5 : decode cX6_nothing 5 = .ok (.ifCond .eq 23, 3) := by decide +kernel
theorem dX6_nothing_8 : decode cX6_nothing 8 = .ok (.aload_n 0, 1) := by decide +kernel
theorem dX6_nothing_9 : decode cX6_nothing 9 = .ok (.getfield 51, 3) := by decide +kernel
theorem dX6_nothing_12 : decode cX6_nothing 12 = .ok (.aload_n 0, 1) := by decide +kernel
theorem dX6_nothing_13 : decode cX6_nothing 13 = .ok (.getfield 19, 3) := by decide +kernel
theorem dX6_nothing_16 : decode cX6_nothing 16 = .ok (.aload_n 0, 1) := by decide +kernel
theorem dX6_nothing_17 : decode cX6_nothing 17 = .ok (.getfield 28, 3) := by decide +kernel
theorem dX6_nothing_20 : decode cX6_nothing 20 = .ok (.iload_n 1, 1) := by decide +kernel
theorem dX6_nothing_21 : decode cX6_nothing 21 = .ok (.aaload, 1) := by decide +kernel
theorem dX6_nothing_22 : decode cX6_nothing 22 = .ok (.invokevirtual 161, 3) := by decide +kernel
theorem dX6_nothing_25 : decode cX6_nothing 25 = .ok (.goto 5, 3) := by decide +kernel
theorem dX6_nothing_28 : decode cX6_nothing 28 = .ok (.bipush (-101), 2) := by decide +kernel
theorem dX6_nothing_30 : decode cX6_nothing 30 = .ok (.ireturn, 1) := by decide +kernel
theorem dX6_alike_0 : decode cX6_alike 0 = .ok (.aload_n 0, 1) := by decide +kernel
theorem dX6_alike_1 : decode cX6_alike 1 = .ok (.iload_n 1, 1) := by decide +kernel
theorem dX6_alike_2 : decode cX6_alike 2 = .ok (.invokevirtual 99, 3) := by decide +kernel
theorem dX6_alike_5 : decode cX6_alike 5 = .ok (.ifCond .eq 11, 3) := by decide +kernel
theorem dX6_alike_8 : decode cX6_alike 8 = .ok (.aload_n 0, 1) := by decide +kernel
theorem dX6_alike_9 : decode cX6_alike 9 = .ok (.iload_n 2, 1) := by decide +kernel
theorem dX6_alike_10 : decode cX6_alike 10 = .ok (.invokevirtual 99, 3) := by decide +kernel
theorem dX6_alike_13 : decode cX6_alike 13 = .ok (.ifCond .ne 6, 3) := by decide +kernel
theorem dX6_alike_16 : decode cX6_alike 16 = .ok (.bipush (-101), 2) := by decide +kernel
theorem dX6_alike_18 : decode cX6_alike 18 = .ok (.ireturn, 1) := by decide +kernel
theorem dX6_alike_19 : decode cX6_alike 19 = .ok (.aload_n 0, 1) := by decide +kernel
theorem dX6_alike_20 : decode cX6_alike 20 = .ok (.getfield 55, 3) := by decide +kernel
theorem dX6_alike_23 : decode cX6_alike 23 = .ok (.aload_n 0, 1) := by decide +kernel
theorem dX6_alike_24 : decode cX6_alike 24 = .ok (.getfield 28, 3) := by decide +kernel
theorem dX6_alike_27 : decode cX6_alike 27 = .ok (.iload_n 1, 1) := by decide +kernel
theorem dX6_alike_28 : decode cX6_alike 28 = .ok (.aaload, 1) := by decide +kernel
theorem dX6_alike_29 : decode cX6_alike 29 = .ok (.invokevirtual 165, 3) := by decide +kernel
theorem dX6_alike_32 : decode cX6_alike 32 = .ok (.aload_n 0, 1) := by decide +kernel
theorem dX6_alike_33 : decode cX6_alike 33 = .ok (.getfield 55, 3) := by decide +kernel
theorem dX6_alike_36 : decode cX6_alike 36 = .ok (.aload_n 0, 1) := by decide +kernel
theorem dX6_alike_37 : decode cX6_alike 37 = .ok (.getfield 28, 3) := by decide +kernel
theorem dX6_alike_40 : decode cX6_alike 40 = .ok (.iload_n 2, 1) := by decide +kernel
theorem dX6_alike_41 : decode cX6_alike 41 = .ok (.aaload, 1) := by decide +kernel
theorem dX6_alike_42 : decode cX6_alike 42 = .ok (.invokevirtual 169, 3) := by decide +kernel
theorem dX6_alike_45 : decode cX6_alike 45 = .ok (.aload_n 0, 1) := by decide +kernel
theorem dX6_alike_46 : decode cX6_alike 46 = .ok (.getfield 51, 3) := by decide +kernel
theorem dX6_alike_49 : decode cX6_alike 49 = .ok (.aload_n 0, 1) := by decide +kernel
theorem dX6_alike_50 : decode cX6_alike 50 = .ok (.getfield 19, 3) := by decide +kernel
theorem dX6_alike_53 : decode cX6_alike 53 = .ok (.aload_n 0, 1) := by decide +kernel
theorem dX6_alike_54 : decode cX6_alike 54 = .ok (.getfield 55, 3) := by decide +kernel
theorem dX6_alike_57 : decode cX6_alike 57 = .ok (.invokevirtual 161, 3) := by decide +kernel
theorem dX6_alike_60 : decode cX6_alike 60 = .ok (.ireturn, 1) := by decide +kernel
theorem dX6_order_0 : decode cX6_order 0 = .ok (.aload_n 0, 1) := by decide +kernel
theorem dX6_order_1 : decode cX6_order 1 = .ok (.iload_n 1, 1) := by decide +kernel
theorem dX6_order_2 : decode cX6_order 2 = .ok (.invokevirtual 99, 3) := by decide +kernel
theorem dX6_order_5 : decode cX6_order 5 = .ok (.ifCond .ne 6, 3) := by decide +kernel
theorem dX6_order_8 : decode cX6_order 8 = .ok (.bipush (-101), 2) := by decide +kernel
theorem dX6_order_10 : decode cX6_order 10 = .ok (.ireturn, 1) := by decide +kernel
theorem dX6_order_11 : decode cX6_order 11 = .ok (.aload_n 0, 1) := by decide +kernel
theorem dX6_order_12 : decode cX6_order 12 = .ok (.getfield 55, 3) := by decide +kernel
theorem dX6_order_15 : decode cX6_order 15 = .ok (.invokevirtual 96, 3) := by decide +kernel
theorem dX6_order_18 : decode cX6_order 18 = .ok (.iconst 1, 1) := by decide +kernel
theorem dX6_order_19 : decode cX6_order 19 = .ok (.istore_n 2, 1) := by decide +kernel
theorem dX6_order_20 : decode cX6_order 20 = .ok (.iload_n 2, 1) := by decide +kernel
theorem dX6_order_21 : decode cX6_order 21 = .ok (.bipush 8, 2) := by decide +kernel
theorem dX6_order_23 : decode cX6_order 23 = .ok (.if_icmp .gt 52, 3) := by decide +kernel
theorem dX6_order_26 : decode cX6_order 26 = .ok (.aload_n 0, 1) := by decide +kernel
theorem dX6_order_27 : decode cX6_order 27 = .ok (.getfield 55, 3) := by decide +kernel
theorem dX6_order_30 : decode cX6_order 30 = .ok (.aload_n 0, 1) := by decide +kernel
theorem dX6_order_31 : decode cX6_order 31 = .ok (.getfield 28, 3) := by decide +kernel
theorem dX6_order_34 : decode cX6_order 34 = .ok (.iload_n 1, 1) := by decide +kernel
theorem dX6_order_35 : decode cX6_order 35 = .ok (.aaload, 1) := by decide +kernel
theorem dX6_order_36 : decode cX6_order 36 = .ok (.invokevirtual 172, 3) := by decide +kernel
theorem dX6_order_39 : decode cX6_order 39 = .ok (.aload_n 0, 1) := by decide +kernel
theorem dX6_order_40 : decode cX6_order 40 = .ok (.getfield 51, 3) := by decide +kernel
theorem dX6_order_43 : decode cX6_order 43 = .ok (.aload_n 0, 1) := by decide +kernel
theorem dX6_order_44 : decode cX6_order 44 = .ok (.getfield 19, 3) := by decide +kernel
theorem dX6_order_47 : decode cX6_order 47 = .ok (.aload_n 0, 1) := by decide +kernel
theorem dX6_order_48 : decode cX6_order 48 = .ok (.getfield 55, 3) := by decide +kernel
theorem dX6_order_51 : decode cX6_order 51 = .ok (.invokevirtual 161, 3) := by decide +kernel
theorem dX6_order_54 : decode cX6_order 54 = .ok (.istore_n 3, 1) := by decide +kernel
theorem dX6_order_55 : decode cX6_order 55 = .ok (.iload_n 3, 1) := by decide +kernel
theorem dX6_order_56 : decode cX6_order 56 = .ok (.iconst 1, 1) := by decide +kernel
theorem dX6_order_57 : decode cX6_order 57 = .ok (.if_icmp .ne 5, 3) := by decide +kernel
theorem dX6_order_60 : decode cX6_order 60 = .ok (.iload_n 2, 1) := by decide +kernel
theorem dX6_order_61 : decode cX6_order 61 = .ok (.ireturn, 1) := by decide +kernel
theorem dX6_order_62 : decode cX6_order 62 = .ok (.iload_n 3, 1) := by decide +kernel
theorem dX6_order_63 : decode cX6_order 63 = .ok (.iconst (-1), 1) := by decide +kernel
theorem dX6_order_64 : decode cX6_order 64 = .ok (.if_icmp .ne 5, 3) := by decide +kernel
theorem dX6_order_67 : decode cX6_order 67 = .ok (.iconst (-1), 1) := by decide +kernel
theorem dX6_order_68 : decode cX6_order 68 = .ok (.ireturn, 1) := by decide +kernel
theorem dX6_order_69 : decode cX6_order 69 = .ok (.iinc 2 1, 3) := by decide +kernel
theorem dX6_order_72 : decode cX6_order 72 = .ok (.goto (-52), 3) := by decide +kernel
theorem dX6_order_75 : decode cX6_order 75 = .ok (.iconst (-1), 1) := by decide +kernel
theorem dX6_order_76 : decode cX6_order 76 = .ok (.ireturn, 1) := by decide +kernel
theorem dX6_times_0 : decode cX6_times 0 = .ok (.aload_n 0, 1) := by decide +kernel
theorem dX6_times_1 : decode cX6_times 1 = .ok (.iload_n 1, 1) := by decide +kernel
theorem dX6_times_2 : decode cX6_times 2 = .ok (.invokevirtual 99, 3) := by decide +kernel
theorem dX6_times_5 : decode cX6_times 5 = .ok (.ifCond .eq 19, 3) := by decide +kernel
theorem dX6_times_8 : decode cX6_times 8 = .ok (.aload_n 0, 1) := by decide +kernel
theorem dX6_times_9 : decode cX6_times 9 = .ok (.iload_n 2, 1) := by decide +kernel
theorem dX6_times_10 : decode cX6_times 10 = .ok (.invokevirtual 99, 3) := by decide +kernel
theorem dX6_times_13 : decode cX6_times 13 = .ok (.ifCond .eq 11, 3) := by decide +kernel
theorem dX6_times_16 : decode cX6_times 16 = .ok (.aload_n 0, 1) := by decide +kernel
theorem dX6_times_17 : decode cX6_times 17 = .ok (.iload_n 3, 1) := by decide +kernel
theorem dX6_times_18 : decode cX6_times 18 = .ok (.invokevirtual 99, 3) := by decide +kernel
theorem dX6_times_21 : decode cX6_times 21 = .ok (.ifCond .ne 6, 3) := by decide +kernel
theorem dX6_times_24 : decode cX6_times 24 = .ok (.bipush (-101), 2) := by decide +kernel
theorem dX6_times_26 : decode cX6_times 26 = .ok (.ireturn, 1) := by decide +kernel
theorem dX6_times_27 : decode cX6_times 27 = .ok (.aload_n 0, 1) := by decide +kernel
theorem dX6_times_28 : decode cX6_times 28 = .ok (.getfield 55, 3) := by decide +kernel
theorem dX6_times_31 : decode cX6_times 31 = .ok (.aload_n 0, 1) := by decide +kernel
theorem dX6_times_32 : decode cX6_times 32 = .ok (.getfield 28, 3) := by decide +kernel
theorem dX6_times_35 : decode cX6_times 35 = .ok (.iload_n 1, 1) := by decide +kernel
theorem dX6_times_36 : decode cX6_times 36 = .ok (.aaload, 1) := by decide +kernel
theorem dX6_times_37 : decode cX6_times 37 = .ok (.invokevirtual 165, 3) := by decide +kernel
theorem dX6_times_40 : decode cX6_times 40 = .ok (.aload_n 0, 1) := by decide +kernel
theorem dX6_times_41 : decode cX6_times 41 = .ok (.getfield 55, 3) := by decide +kernel
theorem dX6_times_44 : decode cX6_times 44 = .ok (.aload_n 0, 1) := by decide +kernel
theorem dX6_times_45 : decode cX6_times 45 = .ok (.getfield 28, 3) := by decide +kernel
theorem dX6_times_48 : decode cX6_times 48 = .ok (.iload_n 2, 1) := by decide +kernel
theorem dX6_times_49 : decode cX6_times 49 = .ok (.aaload, 1) := by decide +kernel
theorem dX6_times_50 : decode cX6_times 50 = .ok (.invokevirtual 172, 3) := by decide +kernel
theorem dX6_times_53 : decode cX6_times 53 = .ok (.aload_n 0, 1) := by decide +kernel
theorem dX6_times_54 : decode cX6_times 54 = .ok (.getfield 55, 3) := by decide +kernel
theorem dX6_times_57 : decode cX6_times 57 = .ok (.invokevirtual 115, 3) := by decide +kernel
theorem dX6_times_60 : decode cX6_times 60 = .ok (.bipush 16, 2) := by decide +kernel
theorem dX6_times_62 : decode cX6_times 62 = .ok (.if_icmp .le 6, 3) := by decide +kernel
theorem dX6_times_65 : decode cX6_times 65 = .ok (.bipush (-104), 2) := by decide +kernel
theorem dX6_times_67 : decode cX6_times 67 = .ok (.ireturn, 1) := by decide +kernel
theorem dX6_times_68 : decode cX6_times 68 = .ok (.aload_n 0, 1) := by decide +kernel
theorem dX6_times_69 : decode cX6_times 69 = .ok (.getfield 28, 3) := by decide +kernel
theorem dX6_times_72 : decode cX6_times 72 = .ok (.iload_n 3, 1) := by decide +kernel
theorem dX6_times_73 : decode cX6_times 73 = .ok (.aaload, 1) := by decide +kernel
theorem dX6_times_74 : decode cX6_times 74 = .ok (.aload_n 0, 1) := by decide +kernel
theorem dX6_times_75 : decode cX6_times 75 = .ok (.getfield 55, 3) := by decide +kernel
theorem dX6_times_78 : decode cX6_times 78 = .ok (.invokevirtual 165, 3) := by decide +kernel
theorem dX6_times_81 : decode cX6_times 81 = .ok (.aload_n 0, 1) := by decide +kernel
theorem dX6_times_82 : decode cX6_times 82 = .ok (.getfield 55, 3) := by decide +kernel
theorem dX6_times_85 : decode cX6_times 85 = .ok (.invokevirtual 115, 3) := by decide +kernel
theorem dX6_times_88 : decode cX6_times 88 = .ok (.ireturn, 1) := by decide +kernel
theorem dX6_undo_0 : decode cX6_undo 0 = .ok (.aload_n 0, 1) := by decide +kernel
theorem dX6_undo_1 : decode cX6_undo 1 = .ok (.iload_n 1, 1) := by decide +kernel
theorem dX6_undo_2 : decode cX6_undo 2 = .ok (.invokevirtual 99, 3) := by decide +kernel
theorem dX6_undo_5 : decode cX6_undo 5 = .ok (.ifCond .eq 11, 3) := by decide +kernel
theorem dX6_undo_8 : decode cX6_undo 8 = .ok (.aload_n 0, 1) := by decide +kernel
theorem dX6_undo_9 : decode cX6_undo 9 = .ok (.iload_n 2, 1) := by decide +kernel
theorem dX6_undo_10 : decode cX6_undo 10 = .ok (.invokevirtual 99, 3) := by decide +kernel
theorem dX6_undo_13 : decode cX6_undo 13 = .ok (.ifCond .ne 6, 3) := by decide +kernel
theorem dX6_undo_16 : decode cX6_undo 16 = .ok (.bipush (-101), 2) := by decide +kernel
theorem dX6_undo_18 : decode cX6_undo 18 = .ok (.ireturn, 1) := by decide +kernel
theorem dX6_undo_19 : decode cX6_undo 19 = .ok (.aload_n 0, 1) := by decide +kernel
theorem dX6_undo_20 : decode cX6_undo 20 = .ok (.getfield 55, 3) := by decide +kernel
theorem dX6_undo_23 : decode cX6_undo 23 = .ok (.invokevirtual 96, 3) := by decide +kernel
theorem dX6_undo_26 : decode cX6_undo 26 = .ok (.aload_n 0, 1) := by decide +kernel
theorem dX6_undo_27 : decode cX6_undo 27 = .ok (.getfield 55, 3) := by decide +kernel
theorem dX6_undo_30 : decode cX6_undo 30 = .ok (.aload_n 0, 1) := by decide +kernel
theorem dX6_undo_31 : decode cX6_undo 31 = .ok (.getfield 28, 3) := by decide +kernel
theorem dX6_undo_34 : decode cX6_undo 34 = .ok (.iload_n 1, 1) := by decide +kernel
theorem dX6_undo_35 : decode cX6_undo 35 = .ok (.aaload, 1) := by decide +kernel
theorem dX6_undo_36 : decode cX6_undo 36 = .ok (.invokevirtual 169, 3) := by decide +kernel
theorem dX6_undo_39 : decode cX6_undo 39 = .ok (.aload_n 0, 1) := by decide +kernel
theorem dX6_undo_40 : decode cX6_undo 40 = .ok (.getfield 28, 3) := by decide +kernel
theorem dX6_undo_43 : decode cX6_undo 43 = .ok (.iload_n 2, 1) := by decide +kernel
theorem dX6_undo_44 : decode cX6_undo 44 = .ok (.aaload, 1) := by decide +kernel
theorem dX6_undo_45 : decode cX6_undo 45 = .ok (.aload_n 0, 1) := by decide +kernel
theorem dX6_undo_46 : decode cX6_undo 46 = .ok (.getfield 55, 3) := by decide +kernel
theorem dX6_undo_49 : decode cX6_undo 49 = .ok (.invokevirtual 165, 3) := by decide +kernel
theorem dX6_undo_52 : decode cX6_undo 52 = .ok (.aload_n 0, 1) := by decide +kernel
theorem dX6_undo_53 : decode cX6_undo 53 = .ok (.getfield 55, 3) := by decide +kernel
theorem dX6_undo_56 : decode cX6_undo 56 = .ok (.invokevirtual 115, 3) := by decide +kernel
theorem dX6_undo_59 : decode cX6_undo 59 = .ok (.ireturn, 1) := by decide +kernel
theorem dX6_section_0 : decode cX6_section 0 = .ok (.aload_n 0, 1) := by decide +kernel
theorem dX6_section_1 : decode cX6_section 1 = .ok (.iload_n 1, 1) := by decide +kernel
theorem dX6_section_2 : decode cX6_section 2 = .ok (.invokevirtual 99, 3) := by decide +kernel
theorem dX6_section_5 : decode cX6_section 5 = .ok (.ifCond .eq 11, 3) := by decide +kernel
theorem dX6_section_8 : decode cX6_section 8 = .ok (.aload_n 0, 1) := by decide +kernel
theorem dX6_section_9 : decode cX6_section 9 = .ok (.iload_n 3, 1) := by decide +kernel
theorem dX6_section_10 : decode cX6_section 10 = .ok (.invokevirtual 99, 3) := by decide +kernel
theorem dX6_section_13 : decode cX6_section 13 = .ok (.ifCond .ne 6, 3) := by decide +kernel
theorem dX6_section_16 : decode cX6_section 16 = .ok (.bipush (-101), 2) := by decide +kernel
theorem dX6_section_18 : decode cX6_section 18 = .ok (.ireturn, 1) := by decide +kernel
theorem dX6_section_19 : decode cX6_section 19 = .ok (.iload_n 2, 1) := by decide +kernel
theorem dX6_section_20 : decode cX6_section 20 = .ok (.invokestatic 175, 3) := by decide +kernel
theorem dX6_section_23 : decode cX6_section 23 = .ok (.ifCond .ne 6, 3) := by decide +kernel
theorem dX6_section_26 : decode cX6_section 26 = .ok (.bipush (-102), 2) := by decide +kernel
theorem dX6_section_28 : decode cX6_section 28 = .ok (.ireturn, 1) := by decide +kernel
theorem dX6_section_29 : decode cX6_section 29 = .ok (.aload_n 0, 1) := by decide +kernel
theorem dX6_section_30 : decode cX6_section 30 = .ok (.getfield 19, 3) := by decide +kernel
theorem dX6_section_33 : decode cX6_section 33 = .ok (.aload_n 0, 1) := by decide +kernel
theorem dX6_section_34 : decode cX6_section 34 = .ok (.getfield 28, 3) := by decide +kernel
theorem dX6_section_37 : decode cX6_section 37 = .ok (.iload_n 1, 1) := by decide +kernel
theorem dX6_section_38 : decode cX6_section 38 = .ok (.aaload, 1) := by decide +kernel
theorem dX6_section_39 : decode cX6_section 39 = .ok (.iload_n 2, 1) := by decide +kernel
theorem dX6_section_40 : decode cX6_section 40 = .ok (.aload_n 0, 1) := by decide +kernel
theorem dX6_section_41 : decode cX6_section 41 = .ok (.getfield 55, 3) := by decide +kernel
theorem dX6_section_44 : decode cX6_section 44 = .ok (.invokevirtual 178, 3) := by decide +kernel
theorem dX6_section_47 : decode cX6_section 47 = .ok (.aload_n 0, 1) := by decide +kernel
theorem dX6_section_48 : decode cX6_section 48 = .ok (.getfield 28, 3) := by decide +kernel
theorem dX6_section_51 : decode cX6_section 51 = .ok (.iload_n 3, 1) := by decide +kernel
theorem dX6_section_52 : decode cX6_section 52 = .ok (.aaload, 1) := by decide +kernel
theorem dX6_section_53 : decode cX6_section 53 = .ok (.aload_n 0, 1) := by decide +kernel
theorem dX6_section_54 : decode cX6_section 54 = .ok (.getfield 55, 3) := by decide +kernel
theorem dX6_section_57 : decode cX6_section 57 = .ok (.invokevirtual 165, 3) := by decide +kernel
theorem dX6_section_60 : decode cX6_section 60 = .ok (.aload_n 0, 1) := by decide +kernel
theorem dX6_section_61 : decode cX6_section 61 = .ok (.getfield 55, 3) := by decide +kernel
theorem dX6_section_64 : decode cX6_section 64 = .ok (.invokevirtual 115, 3) := by decide +kernel
theorem dX6_section_67 : decode cX6_section 67 = .ok (.ireturn, 1) := by decide +kernel
theorem dX6_aim_0 : decode cX6_aim 0 = .ok (.aload_n 0, 1) := by decide +kernel
theorem dX6_aim_1 : decode cX6_aim 1 = .ok (.getfield 19, 3) := by decide +kernel
theorem dX6_aim_4 : decode cX6_aim 4 = .ok (.iload_n 1, 1) := by decide +kernel
theorem dX6_aim_5 : decode cX6_aim 5 = .ok (.invokevirtual 116, 3) := by decide +kernel
theorem dX6_aim_8 : decode cX6_aim 8 = .ok (.ifCond .eq 19, 3) := by decide +kernel
theorem dX6_aim_11 : decode cX6_aim 11 = .ok (.iload_n 3, 1) := by decide +kernel
theorem dX6_aim_12 : decode cX6_aim 12 = .ok (.iconst (-1), 1) := by decide +kernel
theorem dX6_aim_13 : decode cX6_aim 13 = .ok (.if_icmp .eq 17, 3) := by decide +kernel
theorem dX6_aim_16 : decode cX6_aim 16 = .ok (.aload_n 0, 1) := by decide +kernel
theorem dX6_aim_17 : decode cX6_aim 17 = .ok (.getfield 19, 3) := by decide +kernel
theorem dX6_aim_20 : decode cX6_aim 20 = .ok (.iload_n 3, 1) := by decide +kernel
theorem dX6_aim_21 : decode cX6_aim 21 = .ok (.invokevirtual 116, 3) := by decide +kernel
theorem dX6_aim_24 : decode cX6_aim 24 = .ok (.ifCond .ne 6, 3) := by decide +kernel
theorem dX6_aim_27 : decode cX6_aim 27 = .ok (.bipush (-101), 2) := by decide +kernel
theorem dX6_aim_29 : decode cX6_aim 29 = .ok (.ireturn, 1) := by decide +kernel
theorem dX6_aim_30 : decode cX6_aim 30 = .ok (.iload_n 2, 1) := by decide +kernel
theorem dX6_aim_31 : decode cX6_aim 31 = .ok (.invokestatic 175, 3) := by decide +kernel
theorem dX6_aim_34 : decode cX6_aim 34 = .ok (.ifCond .ne 6, 3) := by decide +kernel
theorem dX6_aim_37 : decode cX6_aim 37 = .ok (.bipush (-102), 2) := by decide +kernel
theorem dX6_aim_39 : decode cX6_aim 39 = .ok (.ireturn, 1) := by decide +kernel
theorem dX6_aim_40 : decode cX6_aim 40 = .ok (.aload_n 0, 1) := by decide +kernel
theorem dX6_aim_41 : decode cX6_aim 41 = .ok (.getfield 19, 3) := by decide +kernel
theorem dX6_aim_44 : decode cX6_aim 44 = .ok (.iload_n 1, 1) := by decide +kernel
theorem dX6_aim_45 : decode cX6_aim 45 = .ok (.iload_n 2, 1) := by decide +kernel
theorem dX6_aim_46 : decode cX6_aim 46 = .ok (.invokevirtual 122, 3) := by decide +kernel
theorem dX6_aim_49 : decode cX6_aim 49 = .ok (.istore 4, 2) := by decide +kernel
theorem dX6_aim_51 : decode cX6_aim 51 = .ok (.aload_n 0, 1) := by decide +kernel
theorem dX6_aim_52 : decode cX6_aim 52 = .ok (.getfield 19, 3) := by decide +kernel
theorem dX6_aim_55 : decode cX6_aim 55 = .ok (.iload_n 1, 1) := by decide +kernel
theorem dX6_aim_56 : decode cX6_aim 56 = .ok (.iload_n 2, 1) := by decide +kernel
theorem dX6_aim_57 : decode cX6_aim 57 = .ok (.iload_n 3, 1) := by decide +kernel
theorem dX6_aim_58 : decode cX6_aim 58 = .ok (.invokevirtual 182, 3) := by decide +kernel
theorem dX6_aim_61 : decode cX6_aim 61 = .ok (.iload 4, 2) := by decide +kernel
theorem dX6_aim_63 : decode cX6_aim 63 = .ok (.ireturn, 1) := by decide +kernel
theorem dX6_change_0 : decode cX6_change 0 = .ok (.aload_n 0, 1) := by decide +kernel
theorem dX6_change_1 : decode cX6_change 1 = .ok (.getfield 19, 3) := by decide +kernel
theorem dX6_change_4 : decode cX6_change 4 = .ok (.iload_n 1, 1) := by decide +kernel
theorem dX6_change_5 : decode cX6_change 5 = .ok (.invokevirtual 116, 3) := by decide +kernel
theorem dX6_change_8 : decode cX6_change 8 = .ok (.ifCond .ne 6, 3) := by decide +kernel
theorem dX6_change_11 : decode cX6_change 11 = .ok (.bipush (-101), 2) := by decide +kernel
theorem dX6_change_13 : decode cX6_change 13 = .ok (.ireturn, 1) := by decide +kernel
theorem dX6_change_14 : decode cX6_change 14 = .ok (.iload_n 2, 1) := by decide +kernel
theorem dX6_change_15 : decode cX6_change 15 = .ok (.invokestatic 141, 3) := by decide +kernel
theorem dX6_change_18 : decode cX6_change 18 = .ok (.ifCond .ne 6, 3) := by decide +kernel
theorem dX6_change_21 : decode cX6_change 21 = .ok (.bipush (-102), 2) := by decide +kernel
theorem dX6_change_23 : decode cX6_change 23 = .ok (.ireturn, 1) := by decide +kernel
theorem dX6_change_24 : decode cX6_change 24 = .ok (.aload_n 0, 1) := by decide +kernel
theorem dX6_change_25 : decode cX6_change 25 = .ok (.getfield 19, 3) := by decide +kernel
theorem dX6_change_28 : decode cX6_change 28 = .ok (.iload_n 1, 1) := by decide +kernel
theorem dX6_change_29 : decode cX6_change 29 = .ok (.invokevirtual 119, 3) := by decide +kernel
theorem dX6_change_32 : decode cX6_change 32 = .ok (.istore_n 3, 1) := by decide +kernel
theorem dX6_change_33 : decode cX6_change 33 = .ok (.aload_n 0, 1) := by decide +kernel
theorem dX6_change_34 : decode cX6_change 34 = .ok (.getfield 19, 3) := by decide +kernel
theorem dX6_change_37 : decode cX6_change 37 = .ok (.iload_n 1, 1) := by decide +kernel
theorem dX6_change_38 : decode cX6_change 38 = .ok (.iload_n 2, 1) := by decide +kernel
theorem dX6_change_39 : decode cX6_change 39 = .ok (.invokevirtual 186, 3) := by decide +kernel
theorem dX6_change_42 : decode cX6_change 42 = .ok (.iload_n 3, 1) := by decide +kernel
theorem dX6_change_43 : decode cX6_change 43 = .ok (.ireturn, 1) := by decide +kernel
theorem dX6_see_0 : decode cX6_see 0 = .ok (.aload_n 0, 1) := by decide +kernel
theorem dX6_see_1 : decode cX6_see 1 = .ok (.getfield 19, 3) := by decide +kernel
theorem dX6_see_4 : decode cX6_see 4 = .ok (.iload_n 1, 1) := by decide +kernel
theorem dX6_see_5 : decode cX6_see 5 = .ok (.invokevirtual 116, 3) := by decide +kernel
theorem dX6_see_8 : decode cX6_see 8 = .ok (.ifCond .ne 6, 3) := by decide +kernel
theorem dX6_see_11 : decode cX6_see 11 = .ok (.bipush (-101), 2) := by decide +kernel
theorem dX6_see_13 : decode cX6_see 13 = .ok (.ireturn, 1) := by decide +kernel
theorem dX6_see_14 : decode cX6_see 14 = .ok (.iload_n 2, 1) := by decide +kernel
theorem dX6_see_15 : decode cX6_see 15 = .ok (.ifCond .lt 8, 3) := by decide +kernel
theorem dX6_see_18 : decode cX6_see 18 = .ok (.iload_n 2, 1) := by decide +kernel
theorem dX6_see_19 : decode cX6_see 19 = .ok (.iconst 4, 1) := by decide +kernel
theorem dX6_see_20 : decode cX6_see 20 = .ok (.if_icmp .lt 6, 3) := by decide +kernel
theorem dX6_see_23 : decode cX6_see 23 = .ok (.bipush (-102), 2) := by decide +kernel
theorem dX6_see_25 : decode cX6_see 25 = .ok (.ireturn, 1) := by decide +kernel
theorem dX6_see_26 : decode cX6_see 26 = .ok (.aload_n 0, 1) := by decide +kernel
theorem dX6_see_27 : decode cX6_see 27 = .ok (.getfield 41, 3) := by decide +kernel
theorem dX6_see_30 : decode cX6_see 30 = .ok (.invokevirtual 190, 3) := by decide +kernel
theorem dX6_see_33 : decode cX6_see 33 = .ok (.bipush 6, 2) := by decide +kernel
theorem dX6_see_35 : decode cX6_see 35 = .ok (.if_icmp .lt 6, 3) := by decide +kernel
theorem dX6_see_38 : decode cX6_see 38 = .ok (.bipush (-104), 2) := by decide +kernel
theorem dX6_see_40 : decode cX6_see 40 = .ok (.ireturn, 1) := by decide +kernel
theorem dX6_see_41 : decode cX6_see 41 = .ok (.aload_n 0, 1) := by decide +kernel
theorem dX6_see_42 : decode cX6_see 42 = .ok (.getfield 41, 3) := by decide +kernel
theorem dX6_see_45 : decode cX6_see 45 = .ok (.iload_n 1, 1) := by decide +kernel
theorem dX6_see_46 : decode cX6_see 46 = .ok (.iload_n 3, 1) := by decide +kernel
theorem dX6_see_47 : decode cX6_see 47 = .ok (.ifCond .eq 11, 3) := by decide +kernel
theorem dX6_see_50 : decode cX6_see 50 = .ok (.getstatic 191, 3) := by decide +kernel
theorem dX6_see_53 : decode cX6_see 53 = .ok (.iload_n 2, 1) := by decide +kernel
theorem dX6_see_54 : decode cX6_see 54 = .ok (.iaload, 1) := by decide +kernel
theorem dX6_see_55 : decode cX6_see 55 = .ok (.goto 13, 3) := by decide +kernel
theorem dX6_see_58 : decode cX6_see 58 = .ok (.bipush 31, 2) := by decide +kernel
theorem dX6_see_60 : decode cX6_see 60 = .ok (.getstatic 191, 3) := by decide +kernel
theorem dX6_see_63 : decode cX6_see 63 = .ok (.iload_n 2, 1) := by decide +kernel
theorem dX6_see_64 : decode cX6_see 64 = .ok (.iaload, 1) := by decide +kernel
theorem dX6_see_65 : decode cX6_see 65 = .ok (.iconst (-1), 1) := by decide +kernel
theorem dX6_see_66 : decode cX6_see 66 = .ok (.ixor, 1) := by decide +kernel
theorem dX6_see_67 : decode cX6_see 67 = .ok (.iand, 1) := by decide +kernel
theorem dX6_see_68 : decode cX6_see 68 = .ok (.invokevirtual 195, 3) := by decide +kernel
theorem dX6_see_71 : decode cX6_see 71 = .ok (.aload_n 0, 1) := by decide +kernel
theorem dX6_see_72 : decode cX6_see 72 = .ok (.getfield 41, 3) := by decide +kernel
theorem dX6_see_75 : decode cX6_see 75 = .ok (.invokevirtual 190, 3) := by decide +kernel
theorem dX6_see_78 : decode cX6_see 78 = .ok (.ireturn, 1) := by decide +kernel
theorem dX6_forget_0 : decode cX6_forget 0 = .ok (.aload_n 0, 1) := by decide +kernel
theorem dX6_forget_1 : decode cX6_forget 1 = .ok (.getfield 41, 3) := by decide +kernel
theorem dX6_forget_4 : decode cX6_forget 4 = .ok (.invokevirtual 190, 3) := by decide +kernel
theorem dX6_forget_7 : decode cX6_forget 7 = .ok (.istore_n 1, 1) := by decide +kernel
theorem dX6_forget_8 : decode cX6_forget 8 = .ok (.aload_n 0, 1) := by decide +kernel
theorem dX6_forget_9 : decode cX6_forget 9 = .ok (.getfield 41, 3) := by decide +kernel
theorem dX6_forget_12 : decode cX6_forget 12 = .ok (.invokevirtual 97, 3) := by decide +kernel
theorem dX6_forget_15 : decode cX6_forget 15 = .ok (.iload_n 1, 1) := by decide +kernel
theorem dX6_forget_16 : decode cX6_forget 16 = .ok (.ireturn, 1) := by decide +kernel
theorem dX6_drawn_0 : decode cX6_drawn 0 = .ok (.iload_n 1, 1) := by decide +kernel
theorem dX6_drawn_1 : decode cX6_drawn 1 = .ok (.iconst 1, 1) := by decide +kernel
theorem dX6_drawn_2 : decode cX6_drawn 2 = .ok (.if_icmp .lt 22, 3) := by decide +kernel
theorem dX6_drawn_5 : decode cX6_drawn 5 = .ok (.iload_n 1, 1) := by decide +kernel
theorem dX6_drawn_6 : decode cX6_drawn 6 = .ok (.bipush 30, 2) := by decide +kernel
theorem dX6_drawn_8 : decode cX6_drawn 8 = .ok (.if_icmp .gt 16, 3) := by decide +kernel
theorem dX6_drawn_11 : decode cX6_drawn 11 = .ok (.iload_n 2, 1) := by decide +kernel
theorem dX6_drawn_12 : decode cX6_drawn 12 = .ok (.ifCond .lt 12, 3) := by decide +kernel
theorem dX6_drawn_15 : decode cX6_drawn 15 = .ok (.iload_n 3, 1) := by decide +kernel
theorem dX6_drawn_16 : decode cX6_drawn 16 = .ok (.ifCond .lt 8, 3) := by decide +kernel
theorem dX6_drawn_19 : decode cX6_drawn 19 = .ok (.iload_n 3, 1) := by decide +kernel
theorem dX6_drawn_20 : decode cX6_drawn 20 = .ok (.iconst 3, 1) := by decide +kernel
theorem dX6_drawn_21 : decode cX6_drawn 21 = .ok (.if_icmp .lt 6, 3) := by decide +kernel
theorem dX6_drawn_24 : decode cX6_drawn 24 = .ok (.bipush (-102), 2) := by decide +kernel
theorem dX6_drawn_26 : decode cX6_drawn 26 = .ok (.ireturn, 1) := by decide +kernel
theorem dX6_drawn_27 : decode cX6_drawn 27 = .ok (.aload_n 0, 1) := by decide +kernel
theorem dX6_drawn_28 : decode cX6_drawn 28 = .ok (.getfield 19, 3) := by decide +kernel
theorem dX6_drawn_31 : decode cX6_drawn 31 = .ok (.invokevirtual 98, 3) := by decide +kernel
theorem dX6_drawn_34 : decode cX6_drawn 34 = .ok (.ifCond .ne 6, 3) := by decide +kernel
theorem dX6_drawn_37 : decode cX6_drawn 37 = .ok (.bipush (-103), 2) := by decide +kernel
theorem dX6_drawn_39 : decode cX6_drawn 39 = .ok (.ireturn, 1) := by decide +kernel
theorem dX6_drawn_40 : decode cX6_drawn 40 = .ok (.iconst 0, 1) := by decide +kernel
theorem dX6_drawn_41 : decode cX6_drawn 41 = .ok (.istore 4, 2) := by decide +kernel
theorem dX6_drawn_43 : decode cX6_drawn 43 = .ok (.iconst 0, 1) := by decide +kernel
theorem dX6_drawn_44 : decode cX6_drawn 44 = .ok (.istore 5, 2) := by decide +kernel
theorem dX6_drawn_46 : decode cX6_drawn 46 = .ok (.aload_n 0, 1) := by decide +kernel
theorem dX6_drawn_47 : decode cX6_drawn 47 = .ok (.getfield 62, 3) := by decide +kernel
theorem dX6_drawn_50 : decode cX6_drawn 50 = .ok (.iload_n 2, 1) := by decide +kernel
theorem dX6_drawn_51 : decode cX6_drawn 51 = .ok (.invokevirtual 198, 3) := by decide +kernel
theorem dX6_drawn_54 : decode cX6_drawn 54 = .ok (.iconst 0, 1) := by decide +kernel
theorem dX6_drawn_55 : decode cX6_drawn 55 = .ok (.istore 6, 2) := by decide +kernel
theorem dX6_drawn_57 : decode cX6_drawn 57 = .ok (.iload 6, 2) := by decide +kernel
theorem dX6_drawn_59 : decode cX6_drawn 59 = .ok (.iload_n 1, 1) := by decide +kernel
theorem dX6_drawn_60 : decode cX6_drawn 60 = .ok (.if_icmp .ge 66, 3) := by decide +kernel
theorem dX6_drawn_63 : decode cX6_drawn 63 = .ok (.aload_n 0, 1) := by decide +kernel
theorem dX6_drawn_64 : decode cX6_drawn 64 = .ok (.invokevirtual 201, 3) := by decide +kernel
theorem dX6_drawn_67 : decode cX6_drawn 67 = .ok (.aload_n 0, 1) := by decide +kernel
theorem dX6_drawn_68 : decode cX6_drawn 68 = .ok (.getfield 62, 3) := by decide +kernel
theorem dX6_drawn_71 : decode cX6_drawn 71 = .ok (.sipush 256, 3) := by decide +kernel
theorem dX6_drawn_74 : decode cX6_drawn 74 = .ok (.invokevirtual 204, 3) := by decide +kernel
theorem dX6_drawn_77 : decode cX6_drawn 77 = .ok (.istore 7, 2) := by decide +kernel
theorem dX6_drawn_79 : decode cX6_drawn 79 = .ok (.aload_n 0, 1) := by decide +kernel
theorem dX6_drawn_80 : decode cX6_drawn 80 = .ok (.getfield 19, 3) := by decide +kernel
theorem dX6_drawn_83 : decode cX6_drawn 83 = .ok (.aload_n 0, 1) := by decide +kernel
theorem dX6_drawn_84 : decode cX6_drawn 84 = .ok (.getfield 55, 3) := by decide +kernel
theorem dX6_drawn_87 : decode cX6_drawn 87 = .ok (.iload 7, 2) := by decide +kernel
theorem dX6_drawn_89 : decode cX6_drawn 89 = .ok (.bipush 8, 2) := by decide +kernel
theorem dX6_drawn_91 : decode cX6_drawn 91 = .ok (.invokevirtual 157, 3) := by decide +kernel
theorem dX6_drawn_94 : decode cX6_drawn 94 = .ok (.istore 8, 2) := by decide +kernel
theorem dX6_drawn_96 : decode cX6_drawn 96 = .ok (.iload 4, 2) := by decide +kernel
theorem dX6_drawn_98 : decode cX6_drawn 98 = .ok (.iload 8, 2) := by decide +kernel
theorem dX6_drawn_100 : decode cX6_drawn 100 = .ok (.iadd, 1) := by decide +kernel
theorem dX6_drawn_101 : decode cX6_drawn 101 = .ok (.istore 4, 2) := by decide +kernel
theorem dX6_drawn_103 : decode cX6_drawn 103 = .ok (.iload 5, 2) := by decide +kernel
theorem dX6_drawn_105 : decode cX6_drawn 105 = .ok (.iload 8, 2) := by decide +kernel
theorem dX6_drawn_107 : decode cX6_drawn 107 = .ok (.iload 7, 2) := by decide +kernel
theorem dX6_drawn_109 : decode cX6_drawn 109 = .ok (.if_icmp .ne 7, 3) := by decide +kernel
theorem dX6_drawn_112 : decode cX6_drawn 112 = .ok (.iconst 1, 1) := by decide +kernel
theorem dX6_drawn_113 : decode cX6_drawn 113 = .ok (.goto 4, 3) := by decide +kernel
theorem dX6_drawn_116 : decode cX6_drawn 116 = .ok (.iconst 0, 1) := by decide +kernel
theorem dX6_drawn_117 : decode cX6_drawn 117 = .ok (.iadd, 1) := by decide +kernel
theorem dX6_drawn_118 : decode cX6_drawn 118 = .ok (.istore 5, 2) := by decide +kernel
theorem dX6_drawn_120 : decode cX6_drawn 120 = .ok (.iinc 6 1, 3) := by decide +kernel
theorem dX6_drawn_123 : decode cX6_drawn 123 = .ok (.goto (-66), 3) := by decide +kernel
theorem dX6_drawn_126 : decode cX6_drawn 126 = .ok (.iload_n 3, 1) := by decide +kernel
theorem dX6_drawn_127 : decode cX6_drawn 127 = .ok (.ifCond .ne 6, 3) := by decide +kernel
theorem dX6_drawn_130 : decode cX6_drawn 130 = .ok (.iload 4, 2) := by decide +kernel
theorem dX6_drawn_132 : decode cX6_drawn 132 = .ok (.ireturn, 1) := by decide +kernel
theorem dX6_drawn_133 : decode cX6_drawn 133 = .ok (.iload_n 3, 1) := by decide +kernel
theorem dX6_drawn_134 : decode cX6_drawn 134 = .ok (.iconst 1, 1) := by decide +kernel
theorem dX6_drawn_135 : decode cX6_drawn 135 = .ok (.if_icmp .ne 8, 3) := by decide +kernel
theorem dX6_drawn_138 : decode cX6_drawn 138 = .ok (.iload 5, 2) := by decide +kernel
theorem dX6_drawn_140 : decode cX6_drawn 140 = .ok (.goto 10, 3) := by decide +kernel
theorem dX6_drawn_143 : decode cX6_drawn 143 = .ok (.aload_n 0, 1) := by decide +kernel
theorem dX6_drawn_144 : decode cX6_drawn 144 = .ok (.getfield 62, 3) := by decide +kernel
theorem dX6_drawn_147 : decode cX6_drawn 147 = .ok (.invokevirtual 207, 3) := by decide +kernel
theorem dX6_drawn_150 : decode cX6_drawn 150 = .ok (.ireturn, 1) := by decide +kernel
theorem dX6_image_0 : decode cX6_image 0 = .ok (.aload_n 0, 1) := by decide +kernel
theorem dX6_image_1 : decode cX6_image 1 = .ok (.getfield 19, 3) := by decide +kernel
theorem dX6_image_4 : decode cX6_image 4 = .ok (.invokevirtual 98, 3) := by decide +kernel
theorem dX6_image_7 : decode cX6_image 7 = .ok (.ifCond .ne 6, 3) := by decide +kernel
theorem dX6_image_10 : decode cX6_image 10 = .ok (.bipush (-103), 2) := by decide +kernel
theorem dX6_image_12 : decode cX6_image 12 = .ok (.ireturn, 1) := by decide +kernel
theorem dX6_image_13 : decode cX6_image 13 = .ok (.aload_n 0, 1) := by decide +kernel
theorem dX6_image_14 : decode cX6_image 14 = .ok (.getfield 23, 3) := by decide +kernel
theorem dX6_image_17 : decode cX6_image 17 = .ok (.aload_n 0, 1) := by decide +kernel
theorem dX6_image_18 : decode cX6_image 18 = .ok (.getfield 19, 3) := by decide +kernel
theorem dX6_image_21 : decode cX6_image 21 = .ok (.invokevirtual 210, 3) := by decide +kernel
theorem dX6_image_24 : decode cX6_image 24 = .ok (.aload_n 0, 1) := by decide +kernel
theorem dX6_image_25 : decode cX6_image 25 = .ok (.getfield 45, 3) := by decide +kernel
theorem dX6_image_28 : decode cX6_image 28 = .ok (.aload_n 0, 1) := by decide +kernel
theorem dX6_image_29 : decode cX6_image 29 = .ok (.getfield 41, 3) := by decide +kernel
theorem dX6_image_32 : decode cX6_image 32 = .ok (.invokevirtual 213, 3) := by decide +kernel
theorem dX6_image_35 : decode cX6_image 35 = .ok (.iconst 0, 1) := by decide +kernel
theorem dX6_image_36 : decode cX6_image 36 = .ok (.istore_n 1, 1) := by decide +kernel
theorem dX6_image_37 : decode cX6_image 37 = .ok (.iload_n 1, 1) := by decide +kernel
theorem dX6_image_38 : decode cX6_image 38 = .ok (.iconst 3, 1) := by decide +kernel
theorem dX6_image_39 : decode cX6_image 39 = .ok (.if_icmp .ge 24, 3) := by decide +kernel
theorem dX6_image_42 : decode cX6_image 42 = .ok (.aload_n 0, 1) := by decide +kernel
theorem dX6_image_43 : decode cX6_image 43 = .ok (.getfield 32, 3) := by decide +kernel
theorem dX6_image_46 : decode cX6_image 46 = .ok (.iload_n 1, 1) := by decide +kernel
theorem dX6_image_47 : decode cX6_image 47 = .ok (.aaload, 1) := by decide +kernel
theorem dX6_image_48 : decode cX6_image 48 = .ok (.aload_n 0, 1) := by decide +kernel
theorem dX6_image_49 : decode cX6_image 49 = .ok (.getfield 28, 3) := by decide +kernel
theorem dX6_image_52 : decode cX6_image 52 = .ok (.iload_n 1, 1) := by decide +kernel
theorem dX6_image_53 : decode cX6_image 53 = .ok (.aaload, 1) := by decide +kernel
theorem dX6_image_54 : decode cX6_image 54 = .ok (.invokevirtual 165, 3) := by decide +kernel
theorem dX6_image_57 : decode cX6_image 57 = .ok (.iinc 1 1, 3) := by decide +kernel
theorem dX6_image_60 : decode cX6_image 60 = .ok (.goto (-23), 3) := by decide +kernel
theorem dX6_image_63 : decode cX6_image 63 = .ok (.aload_n 0, 1) := by decide +kernel
theorem dX6_image_64 : decode cX6_image 64 = .ok (.iconst 1, 1) := by decide +kernel
theorem dX6_image_65 : decode cX6_image 65 = .ok (.putfield 66, 3) := by decide +kernel
theorem dX6_image_68 : decode cX6_image 68 = .ok (.aload_n 0, 1) := by decide +kernel
theorem dX6_image_69 : decode cX6_image 69 = .ok (.getfield 19, 3) := by decide +kernel
theorem dX6_image_72 : decode cX6_image 72 = .ok (.invokevirtual 98, 3) := by decide +kernel
theorem dX6_image_75 : decode cX6_image 75 = .ok (.ireturn, 1) := by decide +kernel
theorem dX6_restore_0 : decode cX6_restore 0 = .ok (.aload_n 0, 1) := by decide +kernel
theorem dX6_restore_1 : decode cX6_restore 1 = .ok (.getfield 66, 3) := by decide +kernel
theorem dX6_restore_4 : decode cX6_restore 4 = .ok (.ifCond .ne 6, 3) := by decide +kernel
theorem dX6_restore_7 : decode cX6_restore 7 = .ok (.bipush (-103), 2) := by decide +kernel
theorem dX6_restore_9 : decode cX6_restore 9 = .ok (.ireturn, 1) := by decide +kernel
theorem dX6_restore_10 : decode cX6_restore 10 = .ok (.aload_n 0, 1) := by decide +kernel
theorem dX6_restore_11 : decode cX6_restore 11 = .ok (.getfield 19, 3) := by decide +kernel
theorem dX6_restore_14 : decode cX6_restore 14 = .ok (.aload_n 0, 1) := by decide +kernel
theorem dX6_restore_15 : decode cX6_restore 15 = .ok (.getfield 23, 3) := by decide +kernel
theorem dX6_restore_18 : decode cX6_restore 18 = .ok (.invokevirtual 210, 3) := by decide +kernel
theorem dX6_restore_21 : decode cX6_restore 21 = .ok (.aload_n 0, 1) := by decide +kernel
theorem dX6_restore_22 : decode cX6_restore 22 = .ok (.getfield 41, 3) := by decide +kernel
theorem dX6_restore_25 : decode cX6_restore 25 = .ok (.aload_n 0, 1) := by decide +kernel
theorem dX6_restore_26 : decode cX6_restore 26 = .ok (.getfield 45, 3) := by decide +kernel
theorem dX6_restore_29 : decode cX6_restore 29 = .ok (.invokevirtual 213, 3) := by decide +kernel
theorem dX6_restore_32 : decode cX6_restore 32 = .ok (.iconst 0, 1) := by decide +kernel
theorem dX6_restore_33 : decode cX6_restore 33 = .ok (.istore_n 1, 1) := by decide +kernel
theorem dX6_restore_34 : decode cX6_restore 34 = .ok (.iload_n 1, 1) := by decide +kernel
theorem dX6_restore_35 : decode cX6_restore 35 = .ok (.iconst 3, 1) := by decide +kernel
theorem dX6_restore_36 : decode cX6_restore 36 = .ok (.if_icmp .ge 24, 3) := by decide +kernel
theorem dX6_restore_39 : decode cX6_restore 39 = .ok (.aload_n 0, 1) := by decide +kernel
theorem dX6_restore_40 : decode cX6_restore 40 = .ok (.getfield 28, 3) := by decide +kernel
theorem dX6_restore_43 : decode cX6_restore 43 = .ok (.iload_n 1, 1) := by decide +kernel
theorem dX6_restore_44 : decode cX6_restore 44 = .ok (.aaload, 1) := by decide +kernel
theorem dX6_restore_45 : decode cX6_restore 45 = .ok (.aload_n 0, 1) := by decide +kernel
theorem dX6_restore_46 : decode cX6_restore 46 = .ok (.getfield 32, 3) := by decide +kernel
theorem dX6_restore_49 : decode cX6_restore 49 = .ok (.iload_n 1, 1) := by decide +kernel
theorem dX6_restore_50 : decode cX6_restore 50 = .ok (.aaload, 1) := by decide +kernel
theorem dX6_restore_51 : decode cX6_restore 51 = .ok (.invokevirtual 165, 3) := by decide +kernel
theorem dX6_restore_54 : decode cX6_restore 54 = .ok (.iinc 1 1, 3) := by decide +kernel
theorem dX6_restore_57 : decode cX6_restore 57 = .ok (.goto (-23), 3) := by decide +kernel
theorem dX6_restore_60 : decode cX6_restore 60 = .ok (.aload_n 0, 1) := by decide +kernel
theorem dX6_restore_61 : decode cX6_restore 61 = .ok (.getfield 19, 3) := by decide +kernel
theorem dX6_restore_64 : decode cX6_restore 64 = .ok (.invokevirtual 98, 3) := by decide +kernel
theorem dX6_restore_67 : decode cX6_restore 67 = .ok (.ireturn, 1) := by decide +kernel
theorem dX6_count_0 : decode cX6_count 0 = .ok (.iload_n 1, 1) := by decide +kernel
theorem dX6_count_1 : decode cX6_count 1 = .ok (.tableswitch 93 0 6 #[43, 51, 59, 67, 72, 80, 88], 43) := by decide +kernel
theorem dX6_count_44 : decode cX6_count 44 = .ok (.aload_n 0, 1) := by decide +kernel
theorem dX6_count_45 : decode cX6_count 45 = .ok (.getfield 19, 3) := by decide +kernel
theorem dX6_count_48 : decode cX6_count 48 = .ok (.invokevirtual 98, 3) := by decide +kernel
theorem dX6_count_51 : decode cX6_count 51 = .ok (.ireturn, 1) := by decide +kernel
theorem dX6_count_52 : decode cX6_count 52 = .ok (.aload_n 0, 1) := by decide +kernel
theorem dX6_count_53 : decode cX6_count 53 = .ok (.getfield 19, 3) := by decide +kernel
theorem dX6_count_56 : decode cX6_count 56 = .ok (.invokevirtual 216, 3) := by decide +kernel
theorem dX6_count_59 : decode cX6_count 59 = .ok (.ireturn, 1) := by decide +kernel
theorem dX6_count_60 : decode cX6_count 60 = .ok (.aload_n 0, 1) := by decide +kernel
theorem dX6_count_61 : decode cX6_count 61 = .ok (.getfield 19, 3) := by decide +kernel
theorem dX6_count_64 : decode cX6_count 64 = .ok (.invokevirtual 219, 3) := by decide +kernel
theorem dX6_count_67 : decode cX6_count 67 = .ok (.ireturn, 1) := by decide +kernel
theorem dX6_count_68 : decode cX6_count 68 = .ok (.aload_n 0, 1) := by decide +kernel
theorem dX6_count_69 : decode cX6_count 69 = .ok (.invokevirtual 222, 3) := by decide +kernel
theorem dX6_count_72 : decode cX6_count 72 = .ok (.ireturn, 1) := by decide +kernel
theorem dX6_count_73 : decode cX6_count 73 = .ok (.aload_n 0, 1) := by decide +kernel
theorem dX6_count_74 : decode cX6_count 74 = .ok (.getfield 41, 3) := by decide +kernel
theorem dX6_count_77 : decode cX6_count 77 = .ok (.invokevirtual 190, 3) := by decide +kernel
theorem dX6_count_80 : decode cX6_count 80 = .ok (.ireturn, 1) := by decide +kernel
theorem dX6_count_81 : decode cX6_count 81 = .ok (.aload_n 0, 1) := by decide +kernel
theorem dX6_count_82 : decode cX6_count 82 = .ok (.getfield 12, 3) := by decide +kernel
theorem dX6_count_85 : decode cX6_count 85 = .ok (.invokevirtual 78, 3) := by decide +kernel
theorem dX6_count_88 : decode cX6_count 88 = .ok (.ireturn, 1) := by decide +kernel
theorem dX6_count_89 : decode cX6_count 89 = .ok (.aload_n 0, 1) := by decide +kernel
theorem dX6_count_90 : decode cX6_count 90 = .ok (.getfield 70, 3) := by decide +kernel
theorem dX6_count_93 : decode cX6_count 93 = .ok (.ireturn, 1) := by decide +kernel
theorem dX6_count_94 : decode cX6_count 94 = .ok (.bipush (-102), 2) := by decide +kernel
theorem dX6_count_96 : decode cX6_count 96 = .ok (.ireturn, 1) := by decide +kernel
theorem dX6_digest_0 : decode cX6_digest 0 = .ok (.ldc2_w 225, 3) := by decide +kernel
theorem dX6_digest_3 : decode cX6_digest 3 = .ok (.lstore_n 1, 1) := by decide +kernel
theorem dX6_digest_4 : decode cX6_digest 4 = .ok (.iconst 0, 1) := by decide +kernel
theorem dX6_digest_5 : decode cX6_digest 5 = .ok (.istore_n 3, 1) := by decide +kernel
theorem dX6_digest_6 : decode cX6_digest 6 = .ok (.iload_n 3, 1) := by decide +kernel
theorem dX6_digest_7 : decode cX6_digest 7 = .ok (.aload_n 0, 1) := by decide +kernel
theorem dX6_digest_8 : decode cX6_digest 8 = .ok (.getfield 19, 3) := by decide +kernel
theorem dX6_digest_11 : decode cX6_digest 11 = .ok (.invokevirtual 98, 3) := by decide +kernel
theorem dX6_digest_14 : decode cX6_digest 14 = .ok (.if_icmp .ge 40, 3) := by decide +kernel
theorem dX6_digest_17 : decode cX6_digest 17 = .ok (.iconst 0, 1) := by decide +kernel
theorem dX6_digest_18 : decode cX6_digest 18 = .ok (.istore 4, 2) := by decide +kernel
theorem dX6_digest_20 : decode cX6_digest 20 = .ok (.iload 4, 2) := by decide +kernel
theorem dX6_digest_22 : decode cX6_digest 22 = .ok (.bipush 8, 2) := by decide +kernel
theorem dX6_digest_24 : decode cX6_digest 24 = .ok (.if_icmp .ge 24, 3) := by decide +kernel
theorem dX6_digest_27 : decode cX6_digest 27 = .ok (.ldc2_w 227, 3) := by decide +kernel
theorem dX6_digest_30 : decode cX6_digest 30 = .ok (.lload_n 1, 1) := by decide +kernel
theorem dX6_digest_31 : decode cX6_digest 31 = .ok (.lmul, 1) := by decide +kernel
theorem dX6_digest_32 : decode cX6_digest 32 = .ok (.aload_n 0, 1) := by decide +kernel
theorem dX6_digest_33 : decode cX6_digest 33 = .ok (.iload_n 3, 1) := by decide +kernel
theorem dX6_digest_34 : decode cX6_digest 34 = .ok (.iload 4, 2) := by decide +kernel
theorem dX6_digest_36 : decode cX6_digest 36 = .ok (.invokevirtual 229, 3) := by decide +kernel
theorem dX6_digest_39 : decode cX6_digest 39 = .ok (.i2l, 1) := by decide +kernel
theorem dX6_digest_40 : decode cX6_digest 40 = .ok (.ladd, 1) := by decide +kernel
theorem dX6_digest_41 : decode cX6_digest 41 = .ok (.lstore_n 1, 1) := by decide +kernel
theorem dX6_digest_42 : decode cX6_digest 42 = .ok (.iinc 4 1, 3) := by decide +kernel
theorem dX6_digest_45 : decode cX6_digest 45 = .ok (.goto (-25), 3) := by decide +kernel
theorem dX6_digest_48 : decode cX6_digest 48 = .ok (.iinc 3 1, 3) := by decide +kernel
theorem dX6_digest_51 : decode cX6_digest 51 = .ok (.goto (-45), 3) := by decide +kernel
theorem dX6_digest_54 : decode cX6_digest 54 = .ok (.aload_n 0, 1) := by decide +kernel
theorem dX6_digest_55 : decode cX6_digest 55 = .ok (.getfield 19, 3) := by decide +kernel
theorem dX6_digest_58 : decode cX6_digest 58 = .ok (.invokevirtual 98, 3) := by decide +kernel
theorem dX6_digest_61 : decode cX6_digest 61 = .ok (.ifCond .le 23, 3) := by decide +kernel
theorem dX6_digest_64 : decode cX6_digest 64 = .ok (.iconst 0, 1) := by decide +kernel
theorem dX6_digest_65 : decode cX6_digest 65 = .ok (.istore_n 3, 1) := by decide +kernel
theorem dX6_digest_66 : decode cX6_digest 66 = .ok (.iload_n 3, 1) := by decide +kernel
theorem dX6_digest_67 : decode cX6_digest 67 = .ok (.iconst 3, 1) := by decide +kernel
theorem dX6_digest_68 : decode cX6_digest 68 = .ok (.if_icmp .ge 16, 3) := by decide +kernel
theorem dX6_digest_71 : decode cX6_digest 71 = .ok (.aload_n 0, 1) := by decide +kernel
theorem dX6_digest_72 : decode cX6_digest 72 = .ok (.lload_n 1, 1) := by decide +kernel
theorem dX6_digest_73 : decode cX6_digest 73 = .ok (.iload_n 3, 1) := by decide +kernel
theorem dX6_digest_74 : decode cX6_digest 74 = .ok (.invokevirtual 232, 3) := by decide +kernel
theorem dX6_digest_77 : decode cX6_digest 77 = .ok (.lstore_n 1, 1) := by decide +kernel
theorem dX6_digest_78 : decode cX6_digest 78 = .ok (.iinc 3 1, 3) := by decide +kernel
theorem dX6_digest_81 : decode cX6_digest 81 = .ok (.goto (-15), 3) := by decide +kernel
theorem dX6_digest_84 : decode cX6_digest 84 = .ok (.iconst 0, 1) := by decide +kernel
theorem dX6_digest_85 : decode cX6_digest 85 = .ok (.istore_n 3, 1) := by decide +kernel
theorem dX6_digest_86 : decode cX6_digest 86 = .ok (.iload_n 3, 1) := by decide +kernel
theorem dX6_digest_87 : decode cX6_digest 87 = .ok (.aload_n 0, 1) := by decide +kernel
theorem dX6_digest_88 : decode cX6_digest 88 = .ok (.getfield 12, 3) := by decide +kernel
theorem dX6_digest_91 : decode cX6_digest 91 = .ok (.invokevirtual 78, 3) := by decide +kernel
theorem dX6_digest_94 : decode cX6_digest 94 = .ok (.if_icmp .ge 25, 3) := by decide +kernel
theorem dX6_digest_97 : decode cX6_digest 97 = .ok (.ldc2_w 227, 3) := by decide +kernel
theorem dX6_digest_100 : decode cX6_digest 100 = .ok (.lload_n 1, 1) := by decide +kernel
theorem dX6_digest_101 : decode cX6_digest 101 = .ok (.lmul, 1) := by decide +kernel
theorem dX6_digest_102 : decode cX6_digest 102 = .ok (.aload_n 0, 1) := by decide +kernel
theorem dX6_digest_103 : decode cX6_digest 103 = .ok (.getfield 12, 3) := by decide +kernel
theorem dX6_digest_106 : decode cX6_digest 106 = .ok (.iload_n 3, 1) := by decide +kernel
theorem dX6_digest_107 : decode cX6_digest 107 = .ok (.invokevirtual 105, 3) := by decide +kernel
theorem dX6_digest_110 : decode cX6_digest 110 = .ok (.i2l, 1) := by decide +kernel
theorem dX6_digest_111 : decode cX6_digest 111 = .ok (.ladd, 1) := by decide +kernel
theorem dX6_digest_112 : decode cX6_digest 112 = .ok (.lstore_n 1, 1) := by decide +kernel
theorem dX6_digest_113 : decode cX6_digest 113 = .ok (.iinc 3 1, 3) := by decide +kernel
theorem dX6_digest_116 : decode cX6_digest 116 = .ok (.goto (-30), 3) := by decide +kernel
theorem dX6_digest_119 : decode cX6_digest 119 = .ok (.iconst 0, 1) := by decide +kernel
theorem dX6_digest_120 : decode cX6_digest 120 = .ok (.istore_n 3, 1) := by decide +kernel
theorem dX6_digest_121 : decode cX6_digest 121 = .ok (.iload_n 3, 1) := by decide +kernel
theorem dX6_digest_122 : decode cX6_digest 122 = .ok (.bipush 7, 2) := by decide +kernel
theorem dX6_digest_124 : decode cX6_digest 124 = .ok (.if_icmp .ge 22, 3) := by decide +kernel
theorem dX6_digest_127 : decode cX6_digest 127 = .ok (.ldc2_w 227, 3) := by decide +kernel
theorem dX6_digest_130 : decode cX6_digest 130 = .ok (.lload_n 1, 1) := by decide +kernel
theorem dX6_digest_131 : decode cX6_digest 131 = .ok (.lmul, 1) := by decide +kernel
theorem dX6_digest_132 : decode cX6_digest 132 = .ok (.aload_n 0, 1) := by decide +kernel
theorem dX6_digest_133 : decode cX6_digest 133 = .ok (.iload_n 3, 1) := by decide +kernel
theorem dX6_digest_134 : decode cX6_digest 134 = .ok (.invokevirtual 236, 3) := by decide +kernel
theorem dX6_digest_137 : decode cX6_digest 137 = .ok (.i2l, 1) := by decide +kernel
theorem dX6_digest_138 : decode cX6_digest 138 = .ok (.ladd, 1) := by decide +kernel
theorem dX6_digest_139 : decode cX6_digest 139 = .ok (.lstore_n 1, 1) := by decide +kernel
theorem dX6_digest_140 : decode cX6_digest 140 = .ok (.iinc 3 1, 3) := by decide +kernel
theorem dX6_digest_143 : decode cX6_digest 143 = .ok (.goto (-22), 3) := by decide +kernel
theorem dX6_digest_146 : decode cX6_digest 146 = .ok (.lload_n 1, 1) := by decide +kernel
theorem dX6_digest_147 : decode cX6_digest 147 = .ok (.lreturn, 1) := by decide +kernel
theorem dX6_digestOfWord_0 : decode cX6_digestOfWord 0 = .ok (.lload_n 1, 1) := by decide +kernel
theorem dX6_digestOfWord_1 : decode cX6_digestOfWord 1 = .ok (.lstore 4, 2) := by decide +kernel
theorem dX6_digestOfWord_3 : decode cX6_digestOfWord 3 = .ok (.iconst 0, 1) := by decide +kernel
theorem dX6_digestOfWord_4 : decode cX6_digestOfWord 4 = .ok (.istore 6, 2) := by decide +kernel
theorem dX6_digestOfWord_6 : decode cX6_digestOfWord 6 = .ok (.iload 6, 2) := by decide +kernel
theorem dX6_digestOfWord_8 : decode cX6_digestOfWord 8 = .ok (.aload_n 0, 1) := by decide +kernel
theorem dX6_digestOfWord_9 : decode cX6_digestOfWord 9 = .ok (.getfield 28, 3) := by decide +kernel
theorem dX6_digestOfWord_12 : decode cX6_digestOfWord 12 = .ok (.iload_n 3, 1) := by decide +kernel
theorem dX6_digestOfWord_13 : decode cX6_digestOfWord 13 = .ok (.aaload, 1) := by decide +kernel
theorem dX6_digestOfWord_14 : decode cX6_digestOfWord 14 = .ok (.invokevirtual 115, 3) := by decide +kernel
theorem dX6_digestOfWord_17 : decode cX6_digestOfWord 17 = .ok (.if_icmp .ge 26, 3) := by decide +kernel
theorem dX6_digestOfWord_20 : decode cX6_digestOfWord 20 = .ok (.ldc2_w 227, 3) := by decide +kernel
theorem dX6_digestOfWord_23 : decode cX6_digestOfWord 23 = .ok (.lload 4, 2) := by decide +kernel
theorem dX6_digestOfWord_25 : decode cX6_digestOfWord 25 = .ok (.lmul, 1) := by decide +kernel
theorem dX6_digestOfWord_26 : decode cX6_digestOfWord 26 = .ok (.aload_n 0, 1) := by decide +kernel
theorem dX6_digestOfWord_27 : decode cX6_digestOfWord 27 = .ok (.iload_n 3, 1) := by decide +kernel
theorem dX6_digestOfWord_28 : decode cX6_digestOfWord 28 = .ok (.iload 6, 2) := by decide +kernel
theorem dX6_digestOfWord_30 : decode cX6_digestOfWord 30 = .ok (.invokevirtual 239, 3) := by decide +kernel
theorem dX6_digestOfWord_33 : decode cX6_digestOfWord 33 = .ok (.i2l, 1) := by decide +kernel
theorem dX6_digestOfWord_34 : decode cX6_digestOfWord 34 = .ok (.ladd, 1) := by decide +kernel
theorem dX6_digestOfWord_35 : decode cX6_digestOfWord 35 = .ok (.lstore 4, 2) := by decide +kernel
theorem dX6_digestOfWord_37 : decode cX6_digestOfWord 37 = .ok (.iinc 6 1, 3) := by decide +kernel
theorem dX6_digestOfWord_40 : decode cX6_digestOfWord 40 = .ok (.goto (-34), 3) := by decide +kernel
theorem dX6_digestOfWord_43 : decode cX6_digestOfWord 43 = .ok (.ldc2_w 227, 3) := by decide +kernel
theorem dX6_digestOfWord_46 : decode cX6_digestOfWord 46 = .ok (.lload 4, 2) := by decide +kernel
theorem dX6_digestOfWord_48 : decode cX6_digestOfWord 48 = .ok (.lmul, 1) := by decide +kernel
theorem dX6_digestOfWord_49 : decode cX6_digestOfWord 49 = .ok (.aload_n 0, 1) := by decide +kernel
theorem dX6_digestOfWord_50 : decode cX6_digestOfWord 50 = .ok (.iload_n 3, 1) := by decide +kernel
theorem dX6_digestOfWord_51 : decode cX6_digestOfWord 51 = .ok (.invokevirtual 242, 3) := by decide +kernel
theorem dX6_digestOfWord_54 : decode cX6_digestOfWord 54 = .ok (.i2l, 1) := by decide +kernel
theorem dX6_digestOfWord_55 : decode cX6_digestOfWord 55 = .ok (.ladd, 1) := by decide +kernel
theorem dX6_digestOfWord_56 : decode cX6_digestOfWord 56 = .ok (.lstore 4, 2) := by decide +kernel
theorem dX6_digestOfWord_58 : decode cX6_digestOfWord 58 = .ok (.iconst 0, 1) := by decide +kernel
theorem dX6_digestOfWord_59 : decode cX6_digestOfWord 59 = .ok (.istore 6, 2) := by decide +kernel
theorem dX6_digestOfWord_61 : decode cX6_digestOfWord 61 = .ok (.iload 6, 2) := by decide +kernel
theorem dX6_digestOfWord_63 : decode cX6_digestOfWord 63 = .ok (.iconst 3, 1) := by decide +kernel
theorem dX6_digestOfWord_64 : decode cX6_digestOfWord 64 = .ok (.if_icmp .gt 26, 3) := by decide +kernel
theorem dX6_digestOfWord_67 : decode cX6_digestOfWord 67 = .ok (.ldc2_w 227, 3) := by decide +kernel
theorem dX6_digestOfWord_70 : decode cX6_digestOfWord 70 = .ok (.lload 4, 2) := by decide +kernel
theorem dX6_digestOfWord_72 : decode cX6_digestOfWord 72 = .ok (.lmul, 1) := by decide +kernel
theorem dX6_digestOfWord_73 : decode cX6_digestOfWord 73 = .ok (.aload_n 0, 1) := by decide +kernel
theorem dX6_digestOfWord_74 : decode cX6_digestOfWord 74 = .ok (.iload_n 3, 1) := by decide +kernel
theorem dX6_digestOfWord_75 : decode cX6_digestOfWord 75 = .ok (.iload 6, 2) := by decide +kernel
theorem dX6_digestOfWord_77 : decode cX6_digestOfWord 77 = .ok (.invokevirtual 245, 3) := by decide +kernel
theorem dX6_digestOfWord_80 : decode cX6_digestOfWord 80 = .ok (.i2l, 1) := by decide +kernel
theorem dX6_digestOfWord_81 : decode cX6_digestOfWord 81 = .ok (.ladd, 1) := by decide +kernel
theorem dX6_digestOfWord_82 : decode cX6_digestOfWord 82 = .ok (.lstore 4, 2) := by decide +kernel
theorem dX6_digestOfWord_84 : decode cX6_digestOfWord 84 = .ok (.iinc 6 1, 3) := by decide +kernel
theorem dX6_digestOfWord_87 : decode cX6_digestOfWord 87 = .ok (.goto (-26), 3) := by decide +kernel
theorem dX6_digestOfWord_90 : decode cX6_digestOfWord 90 = .ok (.ldc2_w 227, 3) := by decide +kernel
theorem dX6_digestOfWord_93 : decode cX6_digestOfWord 93 = .ok (.lload 4, 2) := by decide +kernel
theorem dX6_digestOfWord_95 : decode cX6_digestOfWord 95 = .ok (.lmul, 1) := by decide +kernel
theorem dX6_digestOfWord_96 : decode cX6_digestOfWord 96 = .ok (.aload_n 0, 1) := by decide +kernel
theorem dX6_digestOfWord_97 : decode cX6_digestOfWord 97 = .ok (.iload_n 3, 1) := by decide +kernel
theorem dX6_digestOfWord_98 : decode cX6_digestOfWord 98 = .ok (.iconst 0, 1) := by decide +kernel
theorem dX6_digestOfWord_99 : decode cX6_digestOfWord 99 = .ok (.bipush 6, 2) := by decide +kernel
theorem dX6_digestOfWord_101 : decode cX6_digestOfWord 101 = .ok (.invokevirtual 248, 3) := by decide +kernel
theorem dX6_digestOfWord_104 : decode cX6_digestOfWord 104 = .ok (.i2l, 1) := by decide +kernel
theorem dX6_digestOfWord_105 : decode cX6_digestOfWord 105 = .ok (.ladd, 1) := by decide +kernel
theorem dX6_digestOfWord_106 : decode cX6_digestOfWord 106 = .ok (.lstore 4, 2) := by decide +kernel
theorem dX6_digestOfWord_108 : decode cX6_digestOfWord 108 = .ok (.ldc2_w 227, 3) := by decide +kernel
theorem dX6_digestOfWord_111 : decode cX6_digestOfWord 111 = .ok (.lload 4, 2) := by decide +kernel
theorem dX6_digestOfWord_113 : decode cX6_digestOfWord 113 = .ok (.lmul, 1) := by decide +kernel
theorem dX6_digestOfWord_114 : decode cX6_digestOfWord 114 = .ok (.aload_n 0, 1) := by decide +kernel
theorem dX6_digestOfWord_115 : decode cX6_digestOfWord 115 = .ok (.iload_n 3, 1) := by decide +kernel
theorem dX6_digestOfWord_116 : decode cX6_digestOfWord 116 = .ok (.iconst 5, 1) := by decide +kernel
theorem dX6_digestOfWord_117 : decode cX6_digestOfWord 117 = .ok (.bipush 6, 2) := by decide +kernel
theorem dX6_digestOfWord_119 : decode cX6_digestOfWord 119 = .ok (.invokevirtual 248, 3) := by decide +kernel
theorem dX6_digestOfWord_122 : decode cX6_digestOfWord 122 = .ok (.i2l, 1) := by decide +kernel
theorem dX6_digestOfWord_123 : decode cX6_digestOfWord 123 = .ok (.ladd, 1) := by decide +kernel
theorem dX6_digestOfWord_124 : decode cX6_digestOfWord 124 = .ok (.lreturn, 1) := by decide +kernel
theorem dX6_lettersOfAllWords_0 : decode cX6_lettersOfAllWords 0 = .ok (.iconst 0, 1) := by decide +kernel
theorem dX6_lettersOfAllWords_1 : decode cX6_lettersOfAllWords 1 = .ok (.istore_n 1, 1) := by decide +kernel
theorem dX6_lettersOfAllWords_2 : decode cX6_lettersOfAllWords 2 = .ok (.iconst 0, 1) := by decide +kernel
theorem dX6_lettersOfAllWords_3 : decode cX6_lettersOfAllWords 3 = .ok (.istore_n 2, 1) := by decide +kernel
theorem dX6_lettersOfAllWords_4 : decode cX6_lettersOfAllWords 4 = .ok (.iload_n 2, 1) := by decide +kernel
theorem dX6_lettersOfAllWords_5 : decode cX6_lettersOfAllWords 5 = .ok (.iconst 3, 1) := by decide +kernel
theorem dX6_lettersOfAllWords_6 : decode cX6_lettersOfAllWords 6 = .ok (.if_icmp .ge 21, 3) := by decide +kernel
theorem dX6_lettersOfAllWords_9 : decode cX6_lettersOfAllWords 9 = .ok (.iload_n 1, 1) := by decide +kernel
theorem dX6_lettersOfAllWords_10 : decode cX6_lettersOfAllWords 10 = .ok (.aload_n 0, 1) := by decide +kernel
theorem dX6_lettersOfAllWords_11 : decode cX6_lettersOfAllWords 11 = .ok (.getfield 28, 3) := by decide +kernel
theorem dX6_lettersOfAllWords_14 : decode cX6_lettersOfAllWords 14 = .ok (.iload_n 2, 1) := by decide +kernel
theorem dX6_lettersOfAllWords_15 : decode cX6_lettersOfAllWords 15 = .ok (.aaload, 1) := by decide +kernel
theorem dX6_lettersOfAllWords_16 : decode cX6_lettersOfAllWords 16 = .ok (.invokevirtual 115, 3) := by decide +kernel
theorem dX6_lettersOfAllWords_19 : decode cX6_lettersOfAllWords 19 = .ok (.iadd, 1) := by decide +kernel
theorem dX6_lettersOfAllWords_20 : decode cX6_lettersOfAllWords 20 = .ok (.istore_n 1, 1) := by decide +kernel
theorem dX6_lettersOfAllWords_21 : decode cX6_lettersOfAllWords 21 = .ok (.iinc 2 1, 3) := by decide +kernel
theorem dX6_lettersOfAllWords_24 : decode cX6_lettersOfAllWords 24 = .ok (.goto (-20), 3) := by decide +kernel
theorem dX6_lettersOfAllWords_27 : decode cX6_lettersOfAllWords 27 = .ok (.iload_n 1, 1) := by decide +kernel
theorem dX6_lettersOfAllWords_28 : decode cX6_lettersOfAllWords 28 = .ok (.ireturn, 1) := by decide +kernel
theorem dX6_isWordOnPage_0 : decode cX6_isWordOnPage 0 = .ok (.aload_n 0, 1) := by decide +kernel
theorem dX6_isWordOnPage_1 : decode cX6_isWordOnPage 1 = .ok (.getfield 12, 3) := by decide +kernel
theorem dX6_isWordOnPage_4 : decode cX6_isWordOnPage 4 = .ok (.invokevirtual 78, 3) := by decide +kernel
theorem dX6_isWordOnPage_7 : decode cX6_isWordOnPage 7 = .ok (.bipush 8, 2) := by decide +kernel
theorem dX6_isWordOnPage_9 : decode cX6_isWordOnPage 9 = .ok (.if_icmp .le 5, 3) := by decide +kernel
theorem dX6_isWordOnPage_12 : decode cX6_isWordOnPage 12 = .ok (.iconst 0, 1) := by decide +kernel
theorem dX6_isWordOnPage_13 : decode cX6_isWordOnPage 13 = .ok (.ireturn, 1) := by decide +kernel
theorem dX6_isWordOnPage_14 : decode cX6_isWordOnPage 14 = .ok (.iconst 0, 1) := by decide +kernel
theorem dX6_isWordOnPage_15 : decode cX6_isWordOnPage 15 = .ok (.istore_n 1, 1) := by decide +kernel
theorem dX6_isWordOnPage_16 : decode cX6_isWordOnPage 16 = .ok (.iload_n 1, 1) := by decide +kernel
theorem dX6_isWordOnPage_17 : decode cX6_isWordOnPage 17 = .ok (.aload_n 0, 1) := by decide +kernel
theorem dX6_isWordOnPage_18 : decode cX6_isWordOnPage 18 = .ok (.getfield 12, 3) := by decide +kernel
theorem dX6_isWordOnPage_21 : decode cX6_isWordOnPage 21 = .ok (.invokevirtual 78, 3) := by decide +kernel
theorem dX6_isWordOnPage_24 : decode cX6_isWordOnPage 24 = .ok (.if_icmp .ge 35, 3) := by decide +kernel
theorem dX6_isWordOnPage_27 : decode cX6_isWordOnPage 27 = .ok (.aload_n 0, 1) := by decide +kernel
theorem dX6_isWordOnPage_28 : decode cX6_isWordOnPage 28 = .ok (.getfield 19, 3) := by decide +kernel
theorem dX6_isWordOnPage_31 : decode cX6_isWordOnPage 31 = .ok (.aload_n 0, 1) := by decide +kernel
theorem dX6_isWordOnPage_32 : decode cX6_isWordOnPage 32 = .ok (.getfield 12, 3) := by decide +kernel
theorem dX6_isWordOnPage_35 : decode cX6_isWordOnPage 35 = .ok (.iload_n 1, 1) := by decide +kernel
theorem dX6_isWordOnPage_36 : decode cX6_isWordOnPage 36 = .ok (.invokevirtual 105, 3) := by decide +kernel
theorem dX6_isWordOnPage_39 : decode cX6_isWordOnPage 39 = .ok (.invokestatic 109, 3) := by decide +kernel
theorem dX6_isWordOnPage_42 : decode cX6_isWordOnPage 42 = .ok (.invokestatic 252, 3) := by decide +kernel
theorem dX6_isWordOnPage_45 : decode cX6_isWordOnPage 45 = .ok (.invokevirtual 116, 3) := by decide +kernel
theorem dX6_isWordOnPage_48 : decode cX6_isWordOnPage 48 = .ok (.ifCond .ne 5, 3) := by decide +kernel
theorem dX6_isWordOnPage_51 : decode cX6_isWordOnPage 51 = .ok (.iconst 0, 1) := by decide +kernel
theorem dX6_isWordOnPage_52 : decode cX6_isWordOnPage 52 = .ok (.ireturn, 1) := by decide +kernel
theorem dX6_isWordOnPage_53 : decode cX6_isWordOnPage 53 = .ok (.iinc 1 1, 3) := by decide +kernel
theorem dX6_isWordOnPage_56 : decode cX6_isWordOnPage 56 = .ok (.goto (-40), 3) := by decide +kernel
theorem dX6_isWordOnPage_59 : decode cX6_isWordOnPage 59 = .ok (.iconst 1, 1) := by decide +kernel
theorem dX6_isWordOnPage_60 : decode cX6_isWordOnPage 60 = .ok (.ireturn, 1) := by decide +kernel
theorem dX6_drawWordToScratch_0 : decode cX6_drawWordToScratch 0 = .ok (.aload_n 0, 1) := by decide +kernel
theorem dX6_drawWordToScratch_1 : decode cX6_drawWordToScratch 1 = .ok (.getfield 55, 3) := by decide +kernel
theorem dX6_drawWordToScratch_4 : decode cX6_drawWordToScratch 4 = .ok (.invokevirtual 96, 3) := by decide +kernel
theorem dX6_drawWordToScratch_7 : decode cX6_drawWordToScratch 7 = .ok (.iconst 0, 1) := by decide +kernel
theorem dX6_drawWordToScratch_8 : decode cX6_drawWordToScratch 8 = .ok (.istore_n 1, 1) := by decide +kernel
theorem dX6_drawWordToScratch_9 : decode cX6_drawWordToScratch 9 = .ok (.iload_n 1, 1) := by decide +kernel
theorem dX6_drawWordToScratch_10 : decode cX6_drawWordToScratch 10 = .ok (.iconst 4, 1) := by decide +kernel
theorem dX6_drawWordToScratch_11 : decode cX6_drawWordToScratch 11 = .ok (.if_icmp .ge 54, 3) := by decide +kernel
theorem dX6_drawWordToScratch_14 : decode cX6_drawWordToScratch 14 = .ok (.aload_n 0, 1) := by decide +kernel
theorem dX6_drawWordToScratch_15 : decode cX6_drawWordToScratch 15 = .ok (.getfield 62, 3) := by decide +kernel
theorem dX6_drawWordToScratch_18 : decode cX6_drawWordToScratch 18 = .ok (.aload_n 0, 1) := by decide +kernel
theorem dX6_drawWordToScratch_19 : decode cX6_drawWordToScratch 19 = .ok (.getfield 19, 3) := by decide +kernel
theorem dX6_drawWordToScratch_22 : decode cX6_drawWordToScratch 22 = .ok (.invokevirtual 98, 3) := by decide +kernel
theorem dX6_drawWordToScratch_25 : decode cX6_drawWordToScratch 25 = .ok (.invokevirtual 204, 3) := by decide +kernel
theorem dX6_drawWordToScratch_28 : decode cX6_drawWordToScratch 28 = .ok (.istore_n 2, 1) := by decide +kernel
theorem dX6_drawWordToScratch_29 : decode cX6_drawWordToScratch 29 = .ok (.aload_n 0, 1) := by decide +kernel
theorem dX6_drawWordToScratch_30 : decode cX6_drawWordToScratch 30 = .ok (.getfield 62, 3) := by decide +kernel
theorem dX6_drawWordToScratch_33 : decode cX6_drawWordToScratch 33 = .ok (.iconst 2, 1) := by decide +kernel
theorem dX6_drawWordToScratch_34 : decode cX6_drawWordToScratch 34 = .ok (.invokevirtual 204, 3) := by decide +kernel
theorem dX6_drawWordToScratch_37 : decode cX6_drawWordToScratch 37 = .ok (.iconst 1, 1) := by decide +kernel
theorem dX6_drawWordToScratch_38 : decode cX6_drawWordToScratch 38 = .ok (.if_icmp .ne 7, 3) := by decide +kernel
theorem dX6_drawWordToScratch_41 : decode cX6_drawWordToScratch 41 = .ok (.iconst 1, 1) := by decide +kernel
theorem dX6_drawWordToScratch_42 : decode cX6_drawWordToScratch 42 = .ok (.goto 4, 3) := by decide +kernel
theorem dX6_drawWordToScratch_45 : decode cX6_drawWordToScratch 45 = .ok (.iconst 0, 1) := by decide +kernel
theorem dX6_drawWordToScratch_46 : decode cX6_drawWordToScratch 46 = .ok (.istore_n 3, 1) := by decide +kernel
theorem dX6_drawWordToScratch_47 : decode cX6_drawWordToScratch 47 = .ok (.aload_n 0, 1) := by decide +kernel
theorem dX6_drawWordToScratch_48 : decode cX6_drawWordToScratch 48 = .ok (.getfield 55, 3) := by decide +kernel
theorem dX6_drawWordToScratch_51 : decode cX6_drawWordToScratch 51 = .ok (.iload_n 2, 1) := by decide +kernel
theorem dX6_drawWordToScratch_52 : decode cX6_drawWordToScratch 52 = .ok (.iload_n 3, 1) := by decide +kernel
theorem dX6_drawWordToScratch_53 : decode cX6_drawWordToScratch 53 = .ok (.invokestatic 255, 3) := by decide +kernel
theorem dX6_drawWordToScratch_56 : decode cX6_drawWordToScratch 56 = .ok (.invokevirtual 259, 3) := by decide +kernel
theorem dX6_drawWordToScratch_59 : decode cX6_drawWordToScratch 59 = .ok (.iinc 1 1, 3) := by decide +kernel
theorem dX6_drawWordToScratch_62 : decode cX6_drawWordToScratch 62 = .ok (.goto (-53), 3) := by decide +kernel
theorem dX6_drawWordToScratch_65 : decode cX6_drawWordToScratch 65 = .ok (.return_, 1) := by decide +kernel
theorem dX6_isActing_0 : decode cX6_isActing 0 = .ok (.iload_n 1, 1) := by decide +kernel
theorem dX6_isActing_1 : decode cX6_isActing 1 = .ok (.invokestatic 144, 3) := by decide +kernel
theorem dX6_isActing_4 : decode cX6_isActing 4 = .ok (.ifCond .eq 17, 3) := by decide +kernel
theorem dX6_isActing_7 : decode cX6_isActing 7 = .ok (.aload_n 0, 1) := by decide +kernel
theorem dX6_isActing_8 : decode cX6_isActing 8 = .ok (.getfield 19, 3) := by decide +kernel
theorem dX6_isActing_11 : decode cX6_isActing 11 = .ok (.invokevirtual 98, 3) := by decide +kernel
theorem dX6_isActing_14 : decode cX6_isActing 14 = .ok (.ifCond .le 7, 3) := by decide +kernel
theorem dX6_isActing_17 : decode cX6_isActing 17 = .ok (.iconst 1, 1) := by decide +kernel
theorem dX6_isActing_18 : decode cX6_isActing 18 = .ok (.goto 4, 3) := by decide +kernel
theorem dX6_isActing_21 : decode cX6_isActing 21 = .ok (.iconst 0, 1) := by decide +kernel
theorem dX6_isActing_22 : decode cX6_isActing 22 = .ok (.ireturn, 1) := by decide +kernel
theorem dX6_isWord_0 : decode cX6_isWord 0 = .ok (.iload_n 0, 1) := by decide +kernel
theorem dX6_isWord_1 : decode cX6_isWord 1 = .ok (.ifCond .lt 12, 3) := by decide +kernel
theorem dX6_isWord_4 : decode cX6_isWord 4 = .ok (.iload_n 0, 1) := by decide +kernel
theorem dX6_isWord_5 : decode cX6_isWord 5 = .ok (.iconst 3, 1) := by decide +kernel
theorem dX6_isWord_6 : decode cX6_isWord 6 = .ok (.if_icmp .ge 7, 3) := by decide +kernel
theorem dX6_isWord_9 : decode cX6_isWord 9 = .ok (.iconst 1, 1) := by decide +kernel
theorem dX6_isWord_10 : decode cX6_isWord 10 = .ok (.goto 4, 3) := by decide +kernel
theorem dX6_isWord_13 : decode cX6_isWord 13 = .ok (.iconst 0, 1) := by decide +kernel
theorem dX6_isWord_14 : decode cX6_isWord 14 = .ok (.ireturn, 1) := by decide +kernel
theorem dX6_isKind_0 : decode cX6_isKind 0 = .ok (.iload_n 0, 1) := by decide +kernel
theorem dX6_isKind_1 : decode cX6_isKind 1 = .ok (.ifCond .lt 12, 3) := by decide +kernel
theorem dX6_isKind_4 : decode cX6_isKind 4 = .ok (.iload_n 0, 1) := by decide +kernel
theorem dX6_isKind_5 : decode cX6_isKind 5 = .ok (.iconst 5, 1) := by decide +kernel
theorem dX6_isKind_6 : decode cX6_isKind 6 = .ok (.if_icmp .ge 7, 3) := by decide +kernel
theorem dX6_isKind_9 : decode cX6_isKind 9 = .ok (.iconst 1, 1) := by decide +kernel
theorem dX6_isKind_10 : decode cX6_isKind 10 = .ok (.goto 4, 3) := by decide +kernel
theorem dX6_isKind_13 : decode cX6_isKind 13 = .ok (.iconst 0, 1) := by decide +kernel
theorem dX6_isKind_14 : decode cX6_isKind 14 = .ok (.ireturn, 1) := by decide +kernel
theorem dX6_isSign_0 : decode cX6_isSign 0 = .ok (.iload_n 0, 1) := by decide +kernel
theorem dX6_isSign_1 : decode cX6_isSign 1 = .ok (.ifCond .eq 8, 3) := by decide +kernel
theorem dX6_isSign_4 : decode cX6_isSign 4 = .ok (.iload_n 0, 1) := by decide +kernel
theorem dX6_isSign_5 : decode cX6_isSign 5 = .ok (.iconst 1, 1) := by decide +kernel
theorem dX6_isSign_6 : decode cX6_isSign 6 = .ok (.if_icmp .ne 7, 3) := by decide +kernel
theorem dX6_isSign_9 : decode cX6_isSign 9 = .ok (.iconst 1, 1) := by decide +kernel
theorem dX6_isSign_10 : decode cX6_isSign 10 = .ok (.goto 4, 3) := by decide +kernel
theorem dX6_isSign_13 : decode cX6_isSign 13 = .ok (.iconst 0, 1) := by decide +kernel
theorem dX6_isSign_14 : decode cX6_isSign 14 = .ok (.ireturn, 1) := by decide +kernel
theorem dX6_isRow_0 : decode cX6_isRow 0 = .ok (.iload_n 1, 1) := by decide +kernel
theorem dX6_isRow_1 : decode cX6_isRow 1 = .ok (.ifCond .lt 23, 3) := by decide +kernel
theorem dX6_isRow_4 : decode cX6_isRow 4 = .ok (.iload_n 1, 1) := by decide +kernel
theorem dX6_isRow_5 : decode cX6_isRow 5 = .ok (.iload_n 2, 1) := by decide +kernel
theorem dX6_isRow_6 : decode cX6_isRow 6 = .ok (.if_icmp .gt 18, 3) := by decide +kernel
theorem dX6_isRow_9 : decode cX6_isRow 9 = .ok (.iload_n 0, 1) := by decide +kernel
theorem dX6_isRow_10 : decode cX6_isRow 10 = .ok (.ifCond .lt 14, 3) := by decide +kernel
theorem dX6_isRow_13 : decode cX6_isRow 13 = .ok (.iload_n 0, 1) := by decide +kernel
theorem dX6_isRow_14 : decode cX6_isRow 14 = .ok (.iconst 1, 1) := by decide +kernel
theorem dX6_isRow_15 : decode cX6_isRow 15 = .ok (.iload_n 1, 1) := by decide +kernel
theorem dX6_isRow_16 : decode cX6_isRow 16 = .ok (.ishl, 1) := by decide +kernel
theorem dX6_isRow_17 : decode cX6_isRow 17 = .ok (.if_icmp .ge 7, 3) := by decide +kernel
theorem dX6_isRow_20 : decode cX6_isRow 20 = .ok (.iconst 1, 1) := by decide +kernel
theorem dX6_isRow_21 : decode cX6_isRow 21 = .ok (.goto 4, 3) := by decide +kernel
theorem dX6_isRow_24 : decode cX6_isRow 24 = .ok (.iconst 0, 1) := by decide +kernel
theorem dX6_isRow_25 : decode cX6_isRow 25 = .ok (.ireturn, 1) := by decide +kernel
theorem dX6_bestQuestion_0 : decode cX6_bestQuestion 0 = .ok (.iload_n 0, 1) := by decide +kernel
theorem dX6_bestQuestion_1 : decode cX6_bestQuestion 1 = .ok (.ifCond .ne 5, 3) := by decide +kernel
theorem dX6_bestQuestion_4 : decode cX6_bestQuestion 4 = .ok (.iconst (-1), 1) := by decide +kernel
theorem dX6_bestQuestion_5 : decode cX6_bestQuestion 5 = .ok (.ireturn, 1) := by decide +kernel
theorem dX6_bestQuestion_6 : decode cX6_bestQuestion 6 = .ok (.iconst (-1), 1) := by decide +kernel
theorem dX6_bestQuestion_7 : decode cX6_bestQuestion 7 = .ok (.istore_n 1, 1) := by decide +kernel
theorem dX6_bestQuestion_8 : decode cX6_bestQuestion 8 = .ok (.bipush 6, 2) := by decide +kernel
theorem dX6_bestQuestion_10 : decode cX6_bestQuestion 10 = .ok (.istore_n 2, 1) := by decide +kernel
theorem dX6_bestQuestion_11 : decode cX6_bestQuestion 11 = .ok (.iconst 0, 1) := by decide +kernel
theorem dX6_bestQuestion_12 : decode cX6_bestQuestion 12 = .ok (.istore_n 3, 1) := by decide +kernel
theorem dX6_bestQuestion_13 : decode cX6_bestQuestion 13 = .ok (.iload_n 3, 1) := by decide +kernel
theorem dX6_bestQuestion_14 : decode cX6_bestQuestion 14 = .ok (.iconst 4, 1) := by decide +kernel
theorem dX6_bestQuestion_15 : decode cX6_bestQuestion 15 = .ok (.if_icmp .ge 50, 3) := by decide +kernel
theorem dX6_bestQuestion_18 : decode cX6_bestQuestion 18 = .ok (.iload_n 0, 1) := by decide +kernel
theorem dX6_bestQuestion_19 : decode cX6_bestQuestion 19 = .ok (.getstatic 191, 3) := by decide +kernel
theorem dX6_bestQuestion_22 : decode cX6_bestQuestion 22 = .ok (.iload_n 3, 1) := by decide +kernel
theorem dX6_bestQuestion_23 : decode cX6_bestQuestion 23 = .ok (.iaload, 1) := by decide +kernel
theorem dX6_bestQuestion_24 : decode cX6_bestQuestion 24 = .ok (.iand, 1) := by decide +kernel
theorem dX6_bestQuestion_25 : decode cX6_bestQuestion 25 = .ok (.invokestatic 262, 3) := by decide +kernel
theorem dX6_bestQuestion_28 : decode cX6_bestQuestion 28 = .ok (.istore 4, 2) := by decide +kernel
theorem dX6_bestQuestion_30 : decode cX6_bestQuestion 30 = .ok (.iload_n 0, 1) := by decide +kernel
theorem dX6_bestQuestion_31 : decode cX6_bestQuestion 31 = .ok (.invokestatic 262, 3) := by decide +kernel
theorem dX6_bestQuestion_34 : decode cX6_bestQuestion 34 = .ok (.iload 4, 2) := by decide +kernel
theorem dX6_bestQuestion_36 : decode cX6_bestQuestion 36 = .ok (.isub, 1) := by decide +kernel
theorem dX6_bestQuestion_37 : decode cX6_bestQuestion 37 = .ok (.istore 5, 2) := by decide +kernel
theorem dX6_bestQuestion_39 : decode cX6_bestQuestion 39 = .ok (.iload 4, 2) := by decide +kernel
theorem dX6_bestQuestion_41 : decode cX6_bestQuestion 41 = .ok (.iload 5, 2) := by decide +kernel
theorem dX6_bestQuestion_43 : decode cX6_bestQuestion 43 = .ok (.invokestatic 267, 3) := by decide +kernel
theorem dX6_bestQuestion_46 : decode cX6_bestQuestion 46 = .ok (.istore 6, 2) := by decide +kernel
theorem dX6_bestQuestion_48 : decode cX6_bestQuestion 48 = .ok (.iload 6, 2) := by decide +kernel
theorem dX6_bestQuestion_50 : decode cX6_bestQuestion 50 = .ok (.iload_n 2, 1) := by decide +kernel
theorem dX6_bestQuestion_51 : decode cX6_bestQuestion 51 = .ok (.if_icmp .ge 8, 3) := by decide +kernel
theorem dX6_bestQuestion_54 : decode cX6_bestQuestion 54 = .ok (.iload_n 3, 1) := by decide +kernel
theorem dX6_bestQuestion_55 : decode cX6_bestQuestion 55 = .ok (.istore_n 1, 1) := by decide +kernel
theorem dX6_bestQuestion_56 : decode cX6_bestQuestion 56 = .ok (.iload 6, 2) := by decide +kernel
theorem dX6_bestQuestion_58 : decode cX6_bestQuestion 58 = .ok (.istore_n 2, 1) := by decide +kernel
theorem dX6_bestQuestion_59 : decode cX6_bestQuestion 59 = .ok (.iinc 3 1, 3) := by decide +kernel
theorem dX6_bestQuestion_62 : decode cX6_bestQuestion 62 = .ok (.goto (-49), 3) := by decide +kernel
theorem dX6_bestQuestion_65 : decode cX6_bestQuestion 65 = .ok (.iload_n 1, 1) := by decide +kernel
theorem dX6_bestQuestion_66 : decode cX6_bestQuestion 66 = .ok (.ireturn, 1) := by decide +kernel
theorem dX6_letterOf_0 : decode cX6_letterOf 0 = .ok (.iconst 2, 1) := by decide +kernel
theorem dX6_letterOf_1 : decode cX6_letterOf 1 = .ok (.iload_n 0, 1) := by decide +kernel
theorem dX6_letterOf_2 : decode cX6_letterOf 2 = .ok (.imul, 1) := by decide +kernel
theorem dX6_letterOf_3 : decode cX6_letterOf 3 = .ok (.iload_n 1, 1) := by decide +kernel
theorem dX6_letterOf_4 : decode cX6_letterOf 4 = .ok (.ifCond .eq 7, 3) := by decide +kernel
theorem dX6_letterOf_7 : decode cX6_letterOf 7 = .ok (.iconst 1, 1) := by decide +kernel
theorem dX6_letterOf_8 : decode cX6_letterOf 8 = .ok (.goto 4, 3) := by decide +kernel
theorem dX6_letterOf_11 : decode cX6_letterOf 11 = .ok (.iconst 0, 1) := by decide +kernel
theorem dX6_letterOf_12 : decode cX6_letterOf 12 = .ok (.iadd, 1) := by decide +kernel
theorem dX6_letterOf_13 : decode cX6_letterOf 13 = .ok (.ireturn, 1) := by decide +kernel
theorem dX6_stateOf_0 : decode cX6_stateOf 0 = .ok (.iload_n 0, 1) := by decide +kernel
theorem dX6_stateOf_1 : decode cX6_stateOf 1 = .ok (.iconst 1, 1) := by decide +kernel
theorem dX6_stateOf_2 : decode cX6_stateOf 2 = .ok (.ishr, 1) := by decide +kernel
theorem dX6_stateOf_3 : decode cX6_stateOf 3 = .ok (.ireturn, 1) := by decide +kernel
theorem dX6_isInverse_0 : decode cX6_isInverse 0 = .ok (.iload_n 0, 1) := by decide +kernel
theorem dX6_isInverse_1 : decode cX6_isInverse 1 = .ok (.iconst 1, 1) := by decide +kernel
theorem dX6_isInverse_2 : decode cX6_isInverse 2 = .ok (.iand, 1) := by decide +kernel
theorem dX6_isInverse_3 : decode cX6_isInverse 3 = .ok (.iconst 1, 1) := by decide +kernel
theorem dX6_isInverse_4 : decode cX6_isInverse 4 = .ok (.if_icmp .ne 7, 3) := by decide +kernel
theorem dX6_isInverse_7 : decode cX6_isInverse 7 = .ok (.iconst 1, 1) := by decide +kernel
theorem dX6_isInverse_8 : decode cX6_isInverse 8 = .ok (.goto 4, 3) := by decide +kernel
theorem dX6_isInverse_11 : decode cX6_isInverse 11 = .ok (.iconst 0, 1) := by decide +kernel
theorem dX6_isInverse_12 : decode cX6_isInverse 12 = .ok (.ireturn, 1) := by decide +kernel
theorem dX6_inverseOf_0 : decode cX6_inverseOf 0 = .ok (.iload_n 0, 1) := by decide +kernel
theorem dX6_inverseOf_1 : decode cX6_inverseOf 1 = .ok (.iconst 1, 1) := by decide +kernel
theorem dX6_inverseOf_2 : decode cX6_inverseOf 2 = .ok (.ixor, 1) := by decide +kernel
theorem dX6_inverseOf_3 : decode cX6_inverseOf 3 = .ok (.ireturn, 1) := by decide +kernel
theorem dX6_codeOfLetter_0 : decode cX6_codeOfLetter 0 = .ok (.iload_n 0, 1) := by decide +kernel
theorem dX6_codeOfLetter_1 : decode cX6_codeOfLetter 1 = .ok (.invokestatic 272, 3) := by decide +kernel
theorem dX6_codeOfLetter_4 : decode cX6_codeOfLetter 4 = .ok (.ifCond .eq 8, 3) := by decide +kernel
theorem dX6_codeOfLetter_7 : decode cX6_codeOfLetter 7 = .ok (.bipush 65, 2) := by decide +kernel
theorem dX6_codeOfLetter_9 : decode cX6_codeOfLetter 9 = .ok (.goto 5, 3) := by decide +kernel
theorem dX6_codeOfLetter_12 : decode cX6_codeOfLetter 12 = .ok (.bipush 97, 2) := by decide +kernel
theorem dX6_codeOfLetter_14 : decode cX6_codeOfLetter 14 = .ok (.iload_n 0, 1) := by decide +kernel
theorem dX6_codeOfLetter_15 : decode cX6_codeOfLetter 15 = .ok (.invokestatic 252, 3) := by decide +kernel
theorem dX6_codeOfLetter_18 : decode cX6_codeOfLetter 18 = .ok (.iadd, 1) := by decide +kernel
theorem dX6_codeOfLetter_19 : decode cX6_codeOfLetter 19 = .ok (.ireturn, 1) := by decide +kernel
theorem dX6_letterOfCode_0 : decode cX6_letterOfCode 0 = .ok (.iload_n 0, 1) := by decide +kernel
theorem dX6_letterOfCode_1 : decode cX6_letterOfCode 1 = .ok (.bipush 97, 2) := by decide +kernel
theorem dX6_letterOfCode_3 : decode cX6_letterOfCode 3 = .ok (.if_icmp .lt 18, 3) := by decide +kernel
theorem dX6_letterOfCode_6 : decode cX6_letterOfCode 6 = .ok (.iload_n 0, 1) := by decide +kernel
theorem dX6_letterOfCode_7 : decode cX6_letterOfCode 7 = .ok (.bipush 103, 2) := by decide +kernel
theorem dX6_letterOfCode_9 : decode cX6_letterOfCode 9 = .ok (.if_icmp .ge 12, 3) := by decide +kernel
theorem dX6_letterOfCode_12 : decode cX6_letterOfCode 12 = .ok (.iload_n 0, 1) := by decide +kernel
theorem dX6_letterOfCode_13 : decode cX6_letterOfCode 13 = .ok (.bipush 97, 2) := by decide +kernel
theorem dX6_letterOfCode_15 : decode cX6_letterOfCode 15 = .ok (.isub, 1) := by decide +kernel
theorem dX6_letterOfCode_16 : decode cX6_letterOfCode 16 = .ok (.iconst 0, 1) := by decide +kernel
theorem dX6_letterOfCode_17 : decode cX6_letterOfCode 17 = .ok (.invokestatic 255, 3) := by decide +kernel
theorem dX6_letterOfCode_20 : decode cX6_letterOfCode 20 = .ok (.ireturn, 1) := by decide +kernel
theorem dX6_letterOfCode_21 : decode cX6_letterOfCode 21 = .ok (.iload_n 0, 1) := by decide +kernel
theorem dX6_letterOfCode_22 : decode cX6_letterOfCode 22 = .ok (.bipush 65, 2) := by decide +kernel
theorem dX6_letterOfCode_24 : decode cX6_letterOfCode 24 = .ok (.if_icmp .lt 18, 3) := by decide +kernel
theorem dX6_letterOfCode_27 : decode cX6_letterOfCode 27 = .ok (.iload_n 0, 1) := by decide +kernel
theorem dX6_letterOfCode_28 : decode cX6_letterOfCode 28 = .ok (.bipush 71, 2) := by decide +kernel
theorem dX6_letterOfCode_30 : decode cX6_letterOfCode 30 = .ok (.if_icmp .ge 12, 3) := by decide +kernel
theorem dX6_letterOfCode_33 : decode cX6_letterOfCode 33 = .ok (.iload_n 0, 1) := by decide +kernel
theorem dX6_letterOfCode_34 : decode cX6_letterOfCode 34 = .ok (.bipush 65, 2) := by decide +kernel
theorem dX6_letterOfCode_36 : decode cX6_letterOfCode 36 = .ok (.isub, 1) := by decide +kernel
theorem dX6_letterOfCode_37 : decode cX6_letterOfCode 37 = .ok (.iconst 1, 1) := by decide +kernel
theorem dX6_letterOfCode_38 : decode cX6_letterOfCode 38 = .ok (.invokestatic 255, 3) := by decide +kernel
theorem dX6_letterOfCode_41 : decode cX6_letterOfCode 41 = .ok (.ireturn, 1) := by decide +kernel
theorem dX6_letterOfCode_42 : decode cX6_letterOfCode 42 = .ok (.iconst (-1), 1) := by decide +kernel
theorem dX6_letterOfCode_43 : decode cX6_letterOfCode 43 = .ok (.ireturn, 1) := by decide +kernel
