theorem dX7_init_0 : decode cX7_init 0 = .ok (.aload_n 0, 1) := by decide +kernel
theorem dX7_init_1 : decode cX7_init 1 = .ok (.invokespecial 1, 3) := by decide +kernel
theorem dX7_init_4 : decode cX7_init 4 = .ok (.aload_n 0, 1) := by decide +kernel
theorem dX7_init_5 : decode cX7_init 5 = .ok (.bipush 6, 2) := by decide +kernel
theorem dX7_init_7 : decode cX7_init 7 = .ok (.newarray .int, 2) := by decide +kernel
theorem dX7_init_9 : decode cX7_init 9 = .ok (.putfield 7, 3) := by decide +kernel
theorem dX7_init_12 : decode cX7_init 12 = .ok (.aload_n 0, 1) := by decide +kernel
theorem dX7_init_13 : decode cX7_init 13 = .ok (.bipush 12, 2) := by decide +kernel
theorem dX7_init_15 : decode cX7_init 15 = .ok (.newarray .int, 2) := by decide +kernel
theorem dX7_init_17 : decode cX7_init 17 = .ok (.putfield 13, 3) := by decide +kernel
theorem dX7_init_20 : decode cX7_init 20 = .ok (.aload_n 0, 1) := by decide +kernel
theorem dX7_init_21 : decode cX7_init 21 = .ok (.iconst 3, 1) := by decide +kernel
theorem dX7_init_22 : decode cX7_init 22 = .ok (.newarray .int, 2) := by decide +kernel
theorem dX7_init_24 : decode cX7_init 24 = .ok (.putfield 16, 3) := by decide +kernel
theorem dX7_init_27 : decode cX7_init 27 = .ok (.aload_n 0, 1) := by decide +kernel
theorem dX7_init_28 : decode cX7_init 28 = .ok (.bipush 48, 2) := by decide +kernel
theorem dX7_init_30 : decode cX7_init 30 = .ok (.newarray .int, 2) := by decide +kernel
theorem dX7_init_32 : decode cX7_init 32 = .ok (.putfield 19, 3) := by decide +kernel
theorem dX7_init_35 : decode cX7_init 35 = .ok (.aload_n 0, 1) := by decide +kernel
theorem dX7_init_36 : decode cX7_init 36 = .ok (.bipush 6, 2) := by decide +kernel
theorem dX7_init_38 : decode cX7_init 38 = .ok (.newarray .int, 2) := by decide +kernel
theorem dX7_init_40 : decode cX7_init 40 = .ok (.putfield 22, 3) := by decide +kernel
theorem dX7_init_43 : decode cX7_init 43 = .ok (.aload_n 0, 1) := by decide +kernel
theorem dX7_init_44 : decode cX7_init 44 = .ok (.bipush 6, 2) := by decide +kernel
theorem dX7_init_46 : decode cX7_init 46 = .ok (.newarray .int, 2) := by decide +kernel
theorem dX7_init_48 : decode cX7_init 48 = .ok (.putfield 25, 3) := by decide +kernel
theorem dX7_init_51 : decode cX7_init 51 = .ok (.aload_n 0, 1) := by decide +kernel
theorem dX7_init_52 : decode cX7_init 52 = .ok (.bipush 6, 2) := by decide +kernel
theorem dX7_init_54 : decode cX7_init 54 = .ok (.newarray .boolean, 2) := by decide +kernel
theorem dX7_init_56 : decode cX7_init 56 = .ok (.putfield 28, 3) := by decide +kernel
theorem dX7_init_59 : decode cX7_init 59 = .ok (.aload_n 0, 1) := by decide +kernel
theorem dX7_init_60 : decode cX7_init 60 = .ok (.bipush 24, 2) := by decide +kernel
theorem dX7_init_62 : decode cX7_init 62 = .ok (.newarray .int, 2) := by decide +kernel
theorem dX7_init_64 : decode cX7_init 64 = .ok (.putfield 32, 3) := by decide +kernel
theorem dX7_init_67 : decode cX7_init 67 = .ok (.aload_n 0, 1) := by decide +kernel
theorem dX7_init_68 : decode cX7_init 68 = .ok (.sipush 128, 3) := by decide +kernel
theorem dX7_init_71 : decode cX7_init 71 = .ok (.newarray .int, 2) := by decide +kernel
theorem dX7_init_73 : decode cX7_init 73 = .ok (.putfield 35, 3) := by decide +kernel
theorem dX7_init_76 : decode cX7_init 76 = .ok (.aload_n 0, 1) := by decide +kernel
theorem dX7_init_77 : decode cX7_init 77 = .ok (.bipush 41, 2) := by decide +kernel
theorem dX7_init_79 : decode cX7_init 79 = .ok (.newarray .int, 2) := by decide +kernel
theorem dX7_init_81 : decode cX7_init 81 = .ok (.putfield 38, 3) := by decide +kernel
theorem dX7_init_84 : decode cX7_init 84 = .ok (.aload_n 0, 1) := by decide +kernel
theorem dX7_init_85 : decode cX7_init 85 = .ok (.sipush 5248, 3) := by decide +kernel
theorem dX7_init_88 : decode cX7_init 88 = .ok (.newarray .byte, 2) := by decide +kernel
theorem dX7_init_90 : decode cX7_init 90 = .ok (.putfield 41, 3) := by decide +kernel
theorem dX7_init_93 : decode cX7_init 93 = .ok (.aload_n 0, 1) := by decide +kernel
theorem dX7_init_94 : decode cX7_init 94 = .ok (.iconst 4, 1) := by decide +kernel
theorem dX7_init_95 : decode cX7_init 95 = .ok (.newarray .int, 2) := by decide +kernel
theorem dX7_init_97 : decode cX7_init 97 = .ok (.putfield 45, 3) := by decide +kernel
theorem dX7_init_100 : decode cX7_init 100 = .ok (.aload_n 0, 1) := by decide +kernel
theorem dX7_init_101 : decode cX7_init 101 = .ok (.bipush 6, 2) := by decide +kernel
theorem dX7_init_103 : decode cX7_init 103 = .ok (.newarray .int, 2) := by decide +kernel
theorem dX7_init_105 : decode cX7_init 105 = .ok (.putfield 48, 3) := by decide +kernel
theorem dX7_init_108 : decode cX7_init 108 = .ok (.aload_n 0, 1) := by decide +kernel
theorem dX7_init_109 : decode cX7_init 109 = .ok (.bipush 12, 2) := by decide +kernel
theorem dX7_init_111 : decode cX7_init 111 = .ok (.newarray .int, 2) := by decide +kernel
theorem dX7_init_113 : decode cX7_init 113 = .ok (.putfield 51, 3) := by decide +kernel
theorem dX7_init_116 : decode cX7_init 116 = .ok (.aload_n 0, 1) := by decide +kernel
theorem dX7_init_117 : decode cX7_init 117 = .ok (.iconst 3, 1) := by decide +kernel
theorem dX7_init_118 : decode cX7_init 118 = .ok (.newarray .int, 2) := by decide +kernel
theorem dX7_init_120 : decode cX7_init 120 = .ok (.putfield 54, 3) := by decide +kernel
theorem dX7_init_123 : decode cX7_init 123 = .ok (.aload_n 0, 1) := by decide +kernel
theorem dX7_init_124 : decode cX7_init 124 = .ok (.bipush 48, 2) := by decide +kernel
theorem dX7_init_126 : decode cX7_init 126 = .ok (.newarray .int, 2) := by decide +kernel
theorem dX7_init_128 : decode cX7_init 128 = .ok (.putfield 57, 3) := by decide +kernel
theorem dX7_init_131 : decode cX7_init 131 = .ok (.aload_n 0, 1) := by decide +kernel
theorem dX7_init_132 : decode cX7_init 132 = .ok (.bipush 6, 2) := by decide +kernel
theorem dX7_init_134 : decode cX7_init 134 = .ok (.newarray .int, 2) := by decide +kernel
theorem dX7_init_136 : decode cX7_init 136 = .ok (.putfield 60, 3) := by decide +kernel
theorem dX7_init_139 : decode cX7_init 139 = .ok (.aload_n 0, 1) := by decide +kernel
theorem dX7_init_140 : decode cX7_init 140 = .ok (.bipush 6, 2) := by decide +kernel
theorem dX7_init_142 : decode cX7_init 142 = .ok (.newarray .int, 2) := by decide +kernel
theorem dX7_init_144 : decode cX7_init 144 = .ok (.putfield 63, 3) := by decide +kernel
theorem dX7_init_147 : decode cX7_init 147 = .ok (.aload_n 0, 1) := by decide +kernel
theorem dX7_init_148 : decode cX7_init 148 = .ok (.bipush 6, 2) := by decide +kernel
theorem dX7_init_150 : decode cX7_init 150 = .ok (.newarray .boolean, 2) := by decide +kernel
theorem dX7_init_152 : decode cX7_init 152 = .ok (.putfield 66, 3) := by decide +kernel
theorem dX7_init_155 : decode cX7_init 155 = .ok (.return_, 1) := by decide +kernel
theorem dX7_within_0 : decode cX7_within 0 = .ok (.iload_n 0, 1) := by decide +kernel
theorem dX7_within_1 : decode cX7_within 1 = .ok (.iload_n 1, 1) := by decide +kernel
theorem dX7_within_2 : decode cX7_within 2 = .ok (.if_icmp .lt 12, 3) := by decide +kernel
theorem dX7_within_5 : decode cX7_within 5 = .ok (.iload_n 0, 1) := by decide +kernel
theorem dX7_within_6 : decode cX7_within 6 = .ok (.iload_n 2, 1) := by decide +kernel
theorem dX7_within_7 : decode cX7_within 7 = .ok (.if_icmp .gt 7, 3) := by decide +kernel
theorem dX7_within_10 : decode cX7_within 10 = .ok (.iconst 1, 1) := by decide +kernel
theorem dX7_within_11 : decode cX7_within 11 = .ok (.goto 4, 3) := by decide +kernel
theorem dX7_within_14 : decode cX7_within 14 = .ok (.iconst 0, 1) := by decide +kernel
theorem dX7_within_15 : decode cX7_within 15 = .ok (.ireturn, 1) := by decide +kernel
theorem dX7_isBit_0 : decode cX7_isBit 0 = .ok (.iload_n 0, 1) := by decide +kernel
theorem dX7_isBit_1 : decode cX7_isBit 1 = .ok (.iload_n 1, 1) := by decide +kernel
theorem dX7_isBit_2 : decode cX7_isBit 2 = .ok (.ishr, 1) := by decide +kernel
theorem dX7_isBit_3 : decode cX7_isBit 3 = .ok (.iconst 1, 1) := by decide +kernel
theorem dX7_isBit_4 : decode cX7_isBit 4 = .ok (.iand, 1) := by decide +kernel
theorem dX7_isBit_5 : decode cX7_isBit 5 = .ok (.iconst 1, 1) := by decide +kernel
theorem dX7_isBit_6 : decode cX7_isBit 6 = .ok (.if_icmp .ne 7, 3) := by decide +kernel
theorem dX7_isBit_9 : decode cX7_isBit 9 = .ok (.iconst 1, 1) := by decide +kernel
theorem dX7_isBit_10 : decode cX7_isBit 10 = .ok (.goto 4, 3) := by decide +kernel
theorem dX7_isBit_13 : decode cX7_isBit 13 = .ok (.iconst 0, 1) := by decide +kernel
theorem dX7_isBit_14 : decode cX7_isBit 14 = .ok (.ireturn, 1) := by decide +kernel
theorem dX7_size_0 : decode cX7_size 0 = .ok (.iconst 0, 1) := by decide +kernel
theorem dX7_size_1 : decode cX7_size 1 = .ok (.istore_n 1, 1) := by decide +kernel
theorem dX7_size_2 : decode cX7_size 2 = .ok (.iconst 0, 1) := by decide +kernel
theorem dX7_size_3 : decode cX7_size 3 = .ok (.istore_n 2, 1) := by decide +kernel
theorem dX7_size_4 : decode cX7_size 4 = .ok (.iload_n 2, 1) := by decide +kernel
theorem dX7_size_5 : decode cX7_size 5 = .ok (.bipush 16, 2) := by decide +kernel
theorem dX7_size_7 : decode cX7_size 7 = .ok (.if_icmp .ge 17, 3) := by decide +kernel
theorem dX7_size_10 : decode cX7_size 10 = .ok (.iload_n 1, 1) := by decide +kernel
theorem dX7_size_11 : decode cX7_size 11 = .ok (.iload_n 0, 1) := by decide +kernel
theorem dX7_size_12 : decode cX7_size 12 = .ok (.iload_n 2, 1) := by decide +kernel
theorem dX7_size_13 : decode cX7_size 13 = .ok (.ishr, 1) := by decide +kernel
theorem dX7_size_14 : decode cX7_size 14 = .ok (.iconst 1, 1) := by decide +kernel
theorem dX7_size_15 : decode cX7_size 15 = .ok (.iand, 1) := by decide +kernel
theorem dX7_size_16 : decode cX7_size 16 = .ok (.iadd, 1) := by decide +kernel
theorem dX7_size_17 : decode cX7_size 17 = .ok (.istore_n 1, 1) := by decide +kernel
theorem dX7_size_18 : decode cX7_size 18 = .ok (.iinc 2 1, 3) := by decide +kernel
theorem dX7_size_21 : decode cX7_size 21 = .ok (.goto (-17), 3) := by decide +kernel
theorem dX7_size_24 : decode cX7_size 24 = .ok (.iload_n 1, 1) := by decide +kernel
theorem dX7_size_25 : decode cX7_size 25 = .ok (.ireturn, 1) := by decide +kernel
theorem dX7_letter_0 : decode cX7_letter 0 = .ok (.iload_n 1, 1) := by decide +kernel
theorem dX7_letter_1 : decode cX7_letter 1 = .ok (.iconst 1, 1) := by decide +kernel
theorem dX7_letter_2 : decode cX7_letter 2 = .ok (.bipush 126, 2) := by decide +kernel
theorem dX7_letter_4 : decode cX7_letter 4 = .ok (.invokestatic 69, 3) := by decide +kernel
theorem dX7_letter_7 : decode cX7_letter 7 = .ok (.ifCond .ne 6, 3) := by decide +kernel
theorem dX7_letter_10 : decode cX7_letter 10 = .ok (.bipush (-102), 2) := by decide +kernel
theorem dX7_letter_12 : decode cX7_letter 12 = .ok (.ireturn, 1) := by decide +kernel
theorem dX7_letter_13 : decode cX7_letter 13 = .ok (.aload_n 0, 1) := by decide +kernel
theorem dX7_letter_14 : decode cX7_letter 14 = .ok (.getfield 73, 3) := by decide +kernel
theorem dX7_letter_17 : decode cX7_letter 17 = .ok (.bipush 24, 2) := by decide +kernel
theorem dX7_letter_19 : decode cX7_letter 19 = .ok (.if_icmp .ne 6, 3) := by decide +kernel
theorem dX7_letter_22 : decode cX7_letter 22 = .ok (.bipush (-104), 2) := by decide +kernel
theorem dX7_letter_24 : decode cX7_letter 24 = .ok (.ireturn, 1) := by decide +kernel
theorem dX7_letter_25 : decode cX7_letter 25 = .ok (.aload_n 0, 1) := by decide +kernel
theorem dX7_letter_26 : decode cX7_letter 26 = .ok (.getfield 32, 3) := by decide +kernel
theorem dX7_letter_29 : decode cX7_letter 29 = .ok (.aload_n 0, 1) := by decide +kernel
theorem dX7_letter_30 : decode cX7_letter 30 = .ok (.getfield 73, 3) := by decide +kernel
theorem dX7_letter_33 : decode cX7_letter 33 = .ok (.iload_n 1, 1) := by decide +kernel
theorem dX7_letter_34 : decode cX7_letter 34 = .ok (.iastore, 1) := by decide +kernel
theorem dX7_letter_35 : decode cX7_letter 35 = .ok (.aload_n 0, 1) := by decide +kernel
theorem dX7_letter_36 : decode cX7_letter 36 = .ok (.dup, 1) := by decide +kernel
theorem dX7_letter_37 : decode cX7_letter 37 = .ok (.getfield 73, 3) := by decide +kernel
theorem dX7_letter_40 : decode cX7_letter 40 = .ok (.iconst 1, 1) := by decide +kernel
theorem dX7_letter_41 : decode cX7_letter 41 = .ok (.iadd, 1) := by decide +kernel
theorem dX7_letter_42 : decode cX7_letter 42 = .ok (.putfield 73, 3) := by decide +kernel
theorem dX7_letter_45 : decode cX7_letter 45 = .ok (.aload_n 0, 1) := by decide +kernel
theorem dX7_letter_46 : decode cX7_letter 46 = .ok (.getfield 73, 3) := by decide +kernel
theorem dX7_letter_49 : decode cX7_letter 49 = .ok (.ireturn, 1) := by decide +kernel
theorem dX7_blank_0 : decode cX7_blank 0 = .ok (.aload_n 0, 1) := by decide +kernel
theorem dX7_blank_1 : decode cX7_blank 1 = .ok (.getfield 73, 3) := by decide +kernel
theorem dX7_blank_4 : decode cX7_blank 4 = .ok (.istore_n 1, 1) := by decide +kernel
theorem dX7_blank_5 : decode cX7_blank 5 = .ok (.aload_n 0, 1) := by decide +kernel
theorem dX7_blank_6 : decode cX7_blank 6 = .ok (.iconst 0, 1) := by decide +kernel
theorem dX7_blank_7 : decode cX7_blank 7 = .ok (.putfield 73, 3) := by decide +kernel
theorem dX7_blank_10 : decode cX7_blank 10 = .ok (.iload_n 1, 1) := by decide +kernel
theorem dX7_blank_11 : decode cX7_blank 11 = .ok (.ireturn, 1) := by decide +kernel
theorem dX7_kindBy_0 : decode cX7_kindBy 0 = .ok (.iload_n 0, 1) := by decide +kernel
theorem dX7_kindBy_1 : decode cX7_kindBy 1 = .ok (.lookupswitch 61 #[(102, 53), (111, 59), (114, 57), (115, 51), (119, 55)], 51) := by decide +kernel
theorem dX7_kindBy_52 : decode cX7_kindBy 52 = .ok (.iconst 0, 1) := by decide +kernel
theorem dX7_kindBy_53 : decode cX7_kindBy 53 = .ok (.ireturn, 1) := by decide +kernel
theorem dX7_kindBy_54 : decode cX7_kindBy 54 = .ok (.iconst 1, 1) := by decide +kernel
theorem dX7_kindBy_55 : decode cX7_kindBy 55 = .ok (.ireturn, 1) := by decide +kernel
theorem dX7_kindBy_56 : decode cX7_kindBy 56 = .ok (.iconst 2, 1) := by decide +kernel
theorem dX7_kindBy_57 : decode cX7_kindBy 57 = .ok (.ireturn, 1) := by decide +kernel
theorem dX7_kindBy_58 : decode cX7_kindBy 58 = .ok (.iconst 3, 1) := by decide +kernel
theorem dX7_kindBy_59 : decode cX7_kindBy 59 = .ok (.ireturn, 1) := by decide +kernel
theorem dX7_kindBy_60 : decode cX7_kindBy 60 = .ok (.iconst 4, 1) := by decide +kernel
theorem dX7_kindBy_61 : decode cX7_kindBy 61 = .ok (.ireturn, 1) := by decide +kernel
theorem dX7_kindBy_62 : decode cX7_kindBy 62 = .ok (.iconst (-1), 1) := by decide +kernel
theorem dX7_kindBy_63 : decode cX7_kindBy 63 = .ok (.ireturn, 1) := by decide +kernel
theorem dX7_fitsAt_0 : decode cX7_fitsAt 0 = .ok (.iload_n 0, 1) := by decide +kernel
theorem dX7_fitsAt_1 : decode cX7_fitsAt 1 = .ok (.iconst 4, 1) := by decide +kernel
theorem dX7_fitsAt_2 : decode cX7_fitsAt 2 = .ok (.irem, 1) := by decide +kernel
theorem dX7_fitsAt_3 : decode cX7_fitsAt 3 = .ok (.lookupswitch 63 #[(0, 25), (3, 45)], 25) := by decide +kernel
theorem dX7_fitsAt_28 : decode cX7_fitsAt 28 = .ok (.iload_n 0, 1) := by decide +kernel
theorem dX7_fitsAt_29 : decode cX7_fitsAt 29 = .ok (.bipush 24, 2) := by decide +kernel
theorem dX7_fitsAt_31 : decode cX7_fitsAt 31 = .ok (.if_icmp .ge 15, 3) := by decide +kernel
theorem dX7_fitsAt_34 : decode cX7_fitsAt 34 = .ok (.iload_n 1, 1) := by decide +kernel
theorem dX7_fitsAt_35 : decode cX7_fitsAt 35 = .ok (.invokestatic 77, 3) := by decide +kernel
theorem dX7_fitsAt_38 : decode cX7_fitsAt 38 = .ok (.iconst (-1), 1) := by decide +kernel
theorem dX7_fitsAt_39 : decode cX7_fitsAt 39 = .ok (.if_icmp .eq 7, 3) := by decide +kernel
theorem dX7_fitsAt_42 : decode cX7_fitsAt 42 = .ok (.iconst 1, 1) := by decide +kernel
theorem dX7_fitsAt_43 : decode cX7_fitsAt 43 = .ok (.goto 4, 3) := by decide +kernel
theorem dX7_fitsAt_46 : decode cX7_fitsAt 46 = .ok (.iconst 0, 1) := by decide +kernel
theorem dX7_fitsAt_47 : decode cX7_fitsAt 47 = .ok (.ireturn, 1) := by decide +kernel
theorem dX7_fitsAt_48 : decode cX7_fitsAt 48 = .ok (.iload_n 0, 1) := by decide +kernel
theorem dX7_fitsAt_49 : decode cX7_fitsAt 49 = .ok (.bipush 23, 2) := by decide +kernel
theorem dX7_fitsAt_51 : decode cX7_fitsAt 51 = .ok (.if_icmp .ge 13, 3) := by decide +kernel
theorem dX7_fitsAt_54 : decode cX7_fitsAt 54 = .ok (.iload_n 1, 1) := by decide +kernel
theorem dX7_fitsAt_55 : decode cX7_fitsAt 55 = .ok (.bipush 44, 2) := by decide +kernel
theorem dX7_fitsAt_57 : decode cX7_fitsAt 57 = .ok (.if_icmp .ne 7, 3) := by decide +kernel
theorem dX7_fitsAt_60 : decode cX7_fitsAt 60 = .ok (.iconst 1, 1) := by decide +kernel
theorem dX7_fitsAt_61 : decode cX7_fitsAt 61 = .ok (.goto 4, 3) := by decide +kernel
theorem dX7_fitsAt_64 : decode cX7_fitsAt 64 = .ok (.iconst 0, 1) := by decide +kernel
theorem dX7_fitsAt_65 : decode cX7_fitsAt 65 = .ok (.ireturn, 1) := by decide +kernel
theorem dX7_fitsAt_66 : decode cX7_fitsAt 66 = .ok (.iload_n 1, 1) := by decide +kernel
theorem dX7_fitsAt_67 : decode cX7_fitsAt 67 = .ok (.bipush 45, 2) := by decide +kernel
theorem dX7_fitsAt_69 : decode cX7_fitsAt 69 = .ok (.if_icmp .eq 14, 3) := by decide +kernel
theorem dX7_fitsAt_72 : decode cX7_fitsAt 72 = .ok (.iload_n 1, 1) := by decide +kernel
theorem dX7_fitsAt_73 : decode cX7_fitsAt 73 = .ok (.bipush 48, 2) := by decide +kernel
theorem dX7_fitsAt_75 : decode cX7_fitsAt 75 = .ok (.bipush 53, 2) := by decide +kernel
theorem dX7_fitsAt_77 : decode cX7_fitsAt 77 = .ok (.invokestatic 69, 3) := by decide +kernel
theorem dX7_fitsAt_80 : decode cX7_fitsAt 80 = .ok (.ifCond .eq 7, 3) := by decide +kernel
theorem dX7_fitsAt_83 : decode cX7_fitsAt 83 = .ok (.iconst 1, 1) := by decide +kernel
theorem dX7_fitsAt_84 : decode cX7_fitsAt 84 = .ok (.goto 4, 3) := by decide +kernel
theorem dX7_fitsAt_87 : decode cX7_fitsAt 87 = .ok (.iconst 0, 1) := by decide +kernel
theorem dX7_fitsAt_88 : decode cX7_fitsAt 88 = .ok (.ireturn, 1) := by decide +kernel
theorem dX7_fault_0 : decode cX7_fault 0 = .ok (.iconst 0, 1) := by decide +kernel
theorem dX7_fault_1 : decode cX7_fault 1 = .ok (.istore_n 1, 1) := by decide +kernel
theorem dX7_fault_2 : decode cX7_fault 2 = .ok (.iload_n 1, 1) := by decide +kernel
theorem dX7_fault_3 : decode cX7_fault 3 = .ok (.aload_n 0, 1) := by decide +kernel
theorem dX7_fault_4 : decode cX7_fault 4 = .ok (.getfield 73, 3) := by decide +kernel
theorem dX7_fault_7 : decode cX7_fault 7 = .ok (.if_icmp .ge 22, 3) := by decide +kernel
theorem dX7_fault_10 : decode cX7_fault 10 = .ok (.iload_n 1, 1) := by decide +kernel
theorem dX7_fault_11 : decode cX7_fault 11 = .ok (.aload_n 0, 1) := by decide +kernel
theorem dX7_fault_12 : decode cX7_fault 12 = .ok (.getfield 32, 3) := by decide +kernel
theorem dX7_fault_15 : decode cX7_fault 15 = .ok (.iload_n 1, 1) := by decide +kernel
theorem dX7_fault_16 : decode cX7_fault 16 = .ok (.iaload, 1) := by decide +kernel
theorem dX7_fault_17 : decode cX7_fault 17 = .ok (.invokestatic 81, 3) := by decide +kernel
theorem dX7_fault_20 : decode cX7_fault 20 = .ok (.ifCond .eq 9, 3) := by decide +kernel
theorem dX7_fault_23 : decode cX7_fault 23 = .ok (.iinc 1 1, 3) := by decide +kernel
theorem dX7_fault_26 : decode cX7_fault 26 = .ok (.goto (-24), 3) := by decide +kernel
theorem dX7_fault_29 : decode cX7_fault 29 = .ok (.iload_n 1, 1) := by decide +kernel
theorem dX7_fault_30 : decode cX7_fault 30 = .ok (.ireturn, 1) := by decide +kernel
theorem dX7_aimOf_0 : decode cX7_aimOf 0 = .ok (.iload_n 0, 1) := by decide +kernel
theorem dX7_aimOf_1 : decode cX7_aimOf 1 = .ok (.bipush 45, 2) := by decide +kernel
theorem dX7_aimOf_3 : decode cX7_aimOf 3 = .ok (.if_icmp .ne 7, 3) := by decide +kernel
theorem dX7_aimOf_6 : decode cX7_aimOf 6 = .ok (.iconst (-1), 1) := by decide +kernel
theorem dX7_aimOf_7 : decode cX7_aimOf 7 = .ok (.goto 7, 3) := by decide +kernel
theorem dX7_aimOf_10 : decode cX7_aimOf 10 = .ok (.iload_n 0, 1) := by decide +kernel
theorem dX7_aimOf_11 : decode cX7_aimOf 11 = .ok (.bipush 48, 2) := by decide +kernel
theorem dX7_aimOf_13 : decode cX7_aimOf 13 = .ok (.isub, 1) := by decide +kernel
theorem dX7_aimOf_14 : decode cX7_aimOf 14 = .ok (.ireturn, 1) := by decide +kernel
theorem dX7_isAimed_0 : decode cX7_isAimed 0 = .ok (.iconst 1, 1) := by decide +kernel
theorem dX7_isAimed_1 : decode cX7_isAimed 1 = .ok (.istore_n 2, 1) := by decide +kernel
theorem dX7_isAimed_2 : decode cX7_isAimed 2 = .ok (.iconst 0, 1) := by decide +kernel
theorem dX7_isAimed_3 : decode cX7_isAimed 3 = .ok (.istore_n 3, 1) := by decide +kernel
theorem dX7_isAimed_4 : decode cX7_isAimed 4 = .ok (.iload_n 3, 1) := by decide +kernel
theorem dX7_isAimed_5 : decode cX7_isAimed 5 = .ok (.iload_n 1, 1) := by decide +kernel
theorem dX7_isAimed_6 : decode cX7_isAimed 6 = .ok (.if_icmp .ge 53, 3) := by decide +kernel
theorem dX7_isAimed_9 : decode cX7_isAimed 9 = .ok (.iload_n 2, 1) := by decide +kernel
theorem dX7_isAimed_10 : decode cX7_isAimed 10 = .ok (.ifCond .eq 41, 3) := by decide +kernel
theorem dX7_isAimed_13 : decode cX7_isAimed 13 = .ok (.aload_n 0, 1) := by decide +kernel
theorem dX7_isAimed_14 : decode cX7_isAimed 14 = .ok (.getfield 32, 3) := by decide +kernel
theorem dX7_isAimed_17 : decode cX7_isAimed 17 = .ok (.iconst 4, 1) := by decide +kernel
theorem dX7_isAimed_18 : decode cX7_isAimed 18 = .ok (.iload_n 3, 1) := by decide +kernel
theorem dX7_isAimed_19 : decode cX7_isAimed 19 = .ok (.imul, 1) := by decide +kernel
theorem dX7_isAimed_20 : decode cX7_isAimed 20 = .ok (.iconst 1, 1) := by decide +kernel
theorem dX7_isAimed_21 : decode cX7_isAimed 21 = .ok (.iadd, 1) := by decide +kernel
theorem dX7_isAimed_22 : decode cX7_isAimed 22 = .ok (.iaload, 1) := by decide +kernel
theorem dX7_isAimed_23 : decode cX7_isAimed 23 = .ok (.invokestatic 85, 3) := by decide +kernel
theorem dX7_isAimed_26 : decode cX7_isAimed 26 = .ok (.iload_n 1, 1) := by decide +kernel
theorem dX7_isAimed_27 : decode cX7_isAimed 27 = .ok (.if_icmp .ge 24, 3) := by decide +kernel
theorem dX7_isAimed_30 : decode cX7_isAimed 30 = .ok (.aload_n 0, 1) := by decide +kernel
theorem dX7_isAimed_31 : decode cX7_isAimed 31 = .ok (.getfield 32, 3) := by decide +kernel
theorem dX7_isAimed_34 : decode cX7_isAimed 34 = .ok (.iconst 4, 1) := by decide +kernel
theorem dX7_isAimed_35 : decode cX7_isAimed 35 = .ok (.iload_n 3, 1) := by decide +kernel
theorem dX7_isAimed_36 : decode cX7_isAimed 36 = .ok (.imul, 1) := by decide +kernel
theorem dX7_isAimed_37 : decode cX7_isAimed 37 = .ok (.iconst 2, 1) := by decide +kernel
theorem dX7_isAimed_38 : decode cX7_isAimed 38 = .ok (.iadd, 1) := by decide +kernel
theorem dX7_isAimed_39 : decode cX7_isAimed 39 = .ok (.iaload, 1) := by decide +kernel
theorem dX7_isAimed_40 : decode cX7_isAimed 40 = .ok (.invokestatic 85, 3) := by decide +kernel
theorem dX7_isAimed_43 : decode cX7_isAimed 43 = .ok (.iload_n 1, 1) := by decide +kernel
theorem dX7_isAimed_44 : decode cX7_isAimed 44 = .ok (.if_icmp .ge 7, 3) := by decide +kernel
theorem dX7_isAimed_47 : decode cX7_isAimed 47 = .ok (.iconst 1, 1) := by decide +kernel
theorem dX7_isAimed_48 : decode cX7_isAimed 48 = .ok (.goto 4, 3) := by decide +kernel
theorem dX7_isAimed_51 : decode cX7_isAimed 51 = .ok (.iconst 0, 1) := by decide +kernel
theorem dX7_isAimed_52 : decode cX7_isAimed 52 = .ok (.istore_n 2, 1) := by decide +kernel
theorem dX7_isAimed_53 : decode cX7_isAimed 53 = .ok (.iinc 3 1, 3) := by decide +kernel
theorem dX7_isAimed_56 : decode cX7_isAimed 56 = .ok (.goto (-52), 3) := by decide +kernel
theorem dX7_isAimed_59 : decode cX7_isAimed 59 = .ok (.iload_n 2, 1) := by decide +kernel
theorem dX7_isAimed_60 : decode cX7_isAimed 60 = .ok (.ireturn, 1) := by decide +kernel
theorem dX7_machine_0 : decode cX7_machine 0 = .ok (.aload_n 0, 1) := by decide +kernel
theorem dX7_machine_1 : decode cX7_machine 1 = .ok (.getfield 73, 3) := by decide +kernel
theorem dX7_machine_4 : decode cX7_machine 4 = .ok (.iconst 1, 1) := by decide +kernel
theorem dX7_machine_5 : decode cX7_machine 5 = .ok (.iadd, 1) := by decide +kernel
theorem dX7_machine_6 : decode cX7_machine 6 = .ok (.iconst 4, 1) := by decide +kernel
theorem dX7_machine_7 : decode cX7_machine 7 = .ok (.idiv, 1) := by decide +kernel
theorem dX7_machine_8 : decode cX7_machine 8 = .ok (.istore_n 1, 1) := by decide +kernel
theorem dX7_machine_9 : decode cX7_machine 9 = .ok (.aload_n 0, 1) := by decide +kernel
theorem dX7_machine_10 : decode cX7_machine 10 = .ok (.invokevirtual 88, 3) := by decide +kernel
theorem dX7_machine_13 : decode cX7_machine 13 = .ok (.aload_n 0, 1) := by decide +kernel
theorem dX7_machine_14 : decode cX7_machine 14 = .ok (.getfield 73, 3) := by decide +kernel
theorem dX7_machine_17 : decode cX7_machine 17 = .ok (.if_icmp .lt 21, 3) := by decide +kernel
theorem dX7_machine_20 : decode cX7_machine 20 = .ok (.aload_n 0, 1) := by decide +kernel
theorem dX7_machine_21 : decode cX7_machine 21 = .ok (.getfield 73, 3) := by decide +kernel
theorem dX7_machine_24 : decode cX7_machine 24 = .ok (.iconst 4, 1) := by decide +kernel
theorem dX7_machine_25 : decode cX7_machine 25 = .ok (.irem, 1) := by decide +kernel
theorem dX7_machine_26 : decode cX7_machine 26 = .ok (.iconst 3, 1) := by decide +kernel
theorem dX7_machine_27 : decode cX7_machine 27 = .ok (.if_icmp .ne 11, 3) := by decide +kernel
theorem dX7_machine_30 : decode cX7_machine 30 = .ok (.aload_n 0, 1) := by decide +kernel
theorem dX7_machine_31 : decode cX7_machine 31 = .ok (.iload_n 1, 1) := by decide +kernel
theorem dX7_machine_32 : decode cX7_machine 32 = .ok (.invokevirtual 92, 3) := by decide +kernel
theorem dX7_machine_35 : decode cX7_machine 35 = .ok (.ifCond .ne 6, 3) := by decide +kernel
theorem dX7_machine_38 : decode cX7_machine 38 = .ok (.bipush (-103), 2) := by decide +kernel
theorem dX7_machine_40 : decode cX7_machine 40 = .ok (.ireturn, 1) := by decide +kernel
theorem dX7_machine_41 : decode cX7_machine 41 = .ok (.iconst 0, 1) := by decide +kernel
theorem dX7_machine_42 : decode cX7_machine 42 = .ok (.istore_n 2, 1) := by decide +kernel
theorem dX7_machine_43 : decode cX7_machine 43 = .ok (.iload_n 2, 1) := by decide +kernel
theorem dX7_machine_44 : decode cX7_machine 44 = .ok (.iload_n 1, 1) := by decide +kernel
theorem dX7_machine_45 : decode cX7_machine 45 = .ok (.if_icmp .ge 70, 3) := by decide +kernel
theorem dX7_machine_48 : decode cX7_machine 48 = .ok (.aload_n 0, 1) := by decide +kernel
theorem dX7_machine_49 : decode cX7_machine 49 = .ok (.getfield 7, 3) := by decide +kernel
theorem dX7_machine_52 : decode cX7_machine 52 = .ok (.iload_n 2, 1) := by decide +kernel
theorem dX7_machine_53 : decode cX7_machine 53 = .ok (.aload_n 0, 1) := by decide +kernel
theorem dX7_machine_54 : decode cX7_machine 54 = .ok (.getfield 32, 3) := by decide +kernel
theorem dX7_machine_57 : decode cX7_machine 57 = .ok (.iconst 4, 1) := by decide +kernel
theorem dX7_machine_58 : decode cX7_machine 58 = .ok (.iload_n 2, 1) := by decide +kernel
theorem dX7_machine_59 : decode cX7_machine 59 = .ok (.imul, 1) := by decide +kernel
theorem dX7_machine_60 : decode cX7_machine 60 = .ok (.iaload, 1) := by decide +kernel
theorem dX7_machine_61 : decode cX7_machine 61 = .ok (.invokestatic 77, 3) := by decide +kernel
theorem dX7_machine_64 : decode cX7_machine 64 = .ok (.iastore, 1) := by decide +kernel
theorem dX7_machine_65 : decode cX7_machine 65 = .ok (.aload_n 0, 1) := by decide +kernel
theorem dX7_machine_66 : decode cX7_machine 66 = .ok (.getfield 13, 3) := by decide +kernel
theorem dX7_machine_69 : decode cX7_machine 69 = .ok (.iconst 2, 1) := by decide +kernel
theorem dX7_machine_70 : decode cX7_machine 70 = .ok (.iload_n 2, 1) := by decide +kernel
theorem dX7_machine_71 : decode cX7_machine 71 = .ok (.imul, 1) := by decide +kernel
theorem dX7_machine_72 : decode cX7_machine 72 = .ok (.aload_n 0, 1) := by decide +kernel
theorem dX7_machine_73 : decode cX7_machine 73 = .ok (.getfield 32, 3) := by decide +kernel
theorem dX7_machine_76 : decode cX7_machine 76 = .ok (.iconst 4, 1) := by decide +kernel
theorem dX7_machine_77 : decode cX7_machine 77 = .ok (.iload_n 2, 1) := by decide +kernel
theorem dX7_machine_78 : decode cX7_machine 78 = .ok (.imul, 1) := by decide +kernel
theorem dX7_machine_79 : decode cX7_machine 79 = .ok (.iconst 1, 1) := by decide +kernel
theorem dX7_machine_80 : decode cX7_machine 80 = .ok (.iadd, 1) := by decide +kernel
theorem dX7_machine_81 : decode cX7_machine 81 = .ok (.iaload, 1) := by decide +kernel
theorem dX7_machine_82 : decode cX7_machine 82 = .ok (.invokestatic 85, 3) := by decide +kernel
theorem dX7_machine_85 : decode cX7_machine 85 = .ok (.iastore, 1) := by decide +kernel
theorem dX7_machine_86 : decode cX7_machine 86 = .ok (.aload_n 0, 1) := by decide +kernel
theorem dX7_machine_87 : decode cX7_machine 87 = .ok (.getfield 13, 3) := by decide +kernel
theorem dX7_machine_90 : decode cX7_machine 90 = .ok (.iconst 2, 1) := by decide +kernel
theorem dX7_machine_91 : decode cX7_machine 91 = .ok (.iload_n 2, 1) := by decide +kernel
theorem dX7_machine_92 : decode cX7_machine 92 = .ok (.imul, 1) := by decide +kernel
theorem dX7_machine_93 : decode cX7_machine 93 = .ok (.iconst 1, 1) := by decide +kernel
theorem dX7_machine_94 : decode cX7_machine 94 = .ok (.iadd, 1) := by decide +kernel
theorem dX7_machine_95 : decode cX7_machine 95 = .ok (.aload_n 0, 1) := by decide +kernel
theorem dX7_machine_96 : decode cX7_machine 96 = .ok (.getfield 32, 3) := by decide +kernel
theorem dX7_machine_99 : decode cX7_machine 99 = .ok (.iconst 4, 1) := by decide +kernel
theorem dX7_machine_100 : decode cX7_machine 100 = .ok (.iload_n 2, 1) := by decide +kernel
theorem dX7_machine_101 : decode cX7_machine 101 = .ok (.imul, 1) := by decide +kernel
theorem dX7_machine_102 : decode cX7_machine 102 = .ok (.iconst 2, 1) := by decide +kernel
theorem dX7_machine_103 : decode cX7_machine 103 = .ok (.iadd, 1) := by decide +kernel
theorem dX7_machine_104 : decode cX7_machine 104 = .ok (.iaload, 1) := by decide +kernel
theorem dX7_machine_105 : decode cX7_machine 105 = .ok (.invokestatic 85, 3) := by decide +kernel
theorem dX7_machine_108 : decode cX7_machine 108 = .ok (.iastore, 1) := by decide +kernel
theorem dX7_machine_109 : decode cX7_machine 109 = .ok (.iinc 2 1, 3) := by decide +kernel
theorem dX7_machine_112 : decode cX7_machine 112 = .ok (.goto (-69), 3) := by decide +kernel
theorem dX7_machine_115 : decode cX7_machine 115 = .ok (.aload_n 0, 1) := by decide +kernel
theorem dX7_machine_116 : decode cX7_machine 116 = .ok (.iload_n 1, 1) := by decide +kernel
theorem dX7_machine_117 : decode cX7_machine 117 = .ok (.putfield 96, 3) := by decide +kernel
theorem dX7_machine_120 : decode cX7_machine 120 = .ok (.iconst 0, 1) := by decide +kernel
theorem dX7_machine_121 : decode cX7_machine 121 = .ok (.istore_n 2, 1) := by decide +kernel
theorem dX7_machine_122 : decode cX7_machine 122 = .ok (.iload_n 2, 1) := by decide +kernel
theorem dX7_machine_123 : decode cX7_machine 123 = .ok (.iconst 3, 1) := by decide +kernel
theorem dX7_machine_124 : decode cX7_machine 124 = .ok (.if_icmp .ge 16, 3) := by decide +kernel
theorem dX7_machine_127 : decode cX7_machine 127 = .ok (.aload_n 0, 1) := by decide +kernel
theorem dX7_machine_128 : decode cX7_machine 128 = .ok (.getfield 16, 3) := by decide +kernel
theorem dX7_machine_131 : decode cX7_machine 131 = .ok (.iload_n 2, 1) := by decide +kernel
theorem dX7_machine_132 : decode cX7_machine 132 = .ok (.iconst 0, 1) := by decide +kernel
theorem dX7_machine_133 : decode cX7_machine 133 = .ok (.iastore, 1) := by decide +kernel
theorem dX7_machine_134 : decode cX7_machine 134 = .ok (.iinc 2 1, 3) := by decide +kernel
theorem dX7_machine_137 : decode cX7_machine 137 = .ok (.goto (-15), 3) := by decide +kernel
theorem dX7_machine_140 : decode cX7_machine 140 = .ok (.aload_n 0, 1) := by decide +kernel
theorem dX7_machine_141 : decode cX7_machine 141 = .ok (.iconst 0, 1) := by decide +kernel
theorem dX7_machine_142 : decode cX7_machine 142 = .ok (.putfield 99, 3) := by decide +kernel
theorem dX7_machine_145 : decode cX7_machine 145 = .ok (.aload_n 0, 1) := by decide +kernel
theorem dX7_machine_146 : decode cX7_machine 146 = .ok (.dup, 1) := by decide +kernel
theorem dX7_machine_147 : decode cX7_machine 147 = .ok (.getfield 102, 3) := by decide +kernel
theorem dX7_machine_150 : decode cX7_machine 150 = .ok (.iconst 1, 1) := by decide +kernel
theorem dX7_machine_151 : decode cX7_machine 151 = .ok (.iadd, 1) := by decide +kernel
theorem dX7_machine_152 : decode cX7_machine 152 = .ok (.putfield 102, 3) := by decide +kernel
theorem dX7_machine_155 : decode cX7_machine 155 = .ok (.aload_n 0, 1) := by decide +kernel
theorem dX7_machine_156 : decode cX7_machine 156 = .ok (.iconst 0, 1) := by decide +kernel
theorem dX7_machine_157 : decode cX7_machine 157 = .ok (.putfield 73, 3) := by decide +kernel
theorem dX7_machine_160 : decode cX7_machine 160 = .ok (.iload_n 1, 1) := by decide +kernel
theorem dX7_machine_161 : decode cX7_machine 161 = .ok (.ireturn, 1) := by decide +kernel
theorem dX7_isWord_0 : decode cX7_isWord 0 = .ok (.iload_n 1, 1) := by decide +kernel
theorem dX7_isWord_1 : decode cX7_isWord 1 = .ok (.iconst 0, 1) := by decide +kernel
theorem dX7_isWord_2 : decode cX7_isWord 2 = .ok (.iconst 2, 1) := by decide +kernel
theorem dX7_isWord_3 : decode cX7_isWord 3 = .ok (.invokestatic 69, 3) := by decide +kernel
theorem dX7_isWord_6 : decode cX7_isWord 6 = .ok (.ifCond .eq 14, 3) := by decide +kernel
theorem dX7_isWord_9 : decode cX7_isWord 9 = .ok (.aload_n 0, 1) := by decide +kernel
theorem dX7_isWord_10 : decode cX7_isWord 10 = .ok (.getfield 96, 3) := by decide +kernel
theorem dX7_isWord_13 : decode cX7_isWord 13 = .ok (.ifCond .le 7, 3) := by decide +kernel
theorem dX7_isWord_16 : decode cX7_isWord 16 = .ok (.iconst 1, 1) := by decide +kernel
theorem dX7_isWord_17 : decode cX7_isWord 17 = .ok (.goto 4, 3) := by decide +kernel
theorem dX7_isWord_20 : decode cX7_isWord 20 = .ok (.iconst 0, 1) := by decide +kernel
theorem dX7_isWord_21 : decode cX7_isWord 21 = .ok (.ireturn, 1) := by decide +kernel
theorem dX7_letterOf_0 : decode cX7_letterOf 0 = .ok (.iload_n 1, 1) := by decide +kernel
theorem dX7_letterOf_1 : decode cX7_letterOf 1 = .ok (.bipush 97, 2) := by decide +kernel
theorem dX7_letterOf_3 : decode cX7_letterOf 3 = .ok (.bipush 97, 2) := by decide +kernel
theorem dX7_letterOf_5 : decode cX7_letterOf 5 = .ok (.aload_n 0, 1) := by decide +kernel
theorem dX7_letterOf_6 : decode cX7_letterOf 6 = .ok (.getfield 96, 3) := by decide +kernel
theorem dX7_letterOf_9 : decode cX7_letterOf 9 = .ok (.iadd, 1) := by decide +kernel
theorem dX7_letterOf_10 : decode cX7_letterOf 10 = .ok (.iconst 1, 1) := by decide +kernel
theorem dX7_letterOf_11 : decode cX7_letterOf 11 = .ok (.isub, 1) := by decide +kernel
theorem dX7_letterOf_12 : decode cX7_letterOf 12 = .ok (.invokestatic 69, 3) := by decide +kernel
theorem dX7_letterOf_15 : decode cX7_letterOf 15 = .ok (.ifCond .eq 10, 3) := by decide +kernel
theorem dX7_letterOf_18 : decode cX7_letterOf 18 = .ok (.iconst 2, 1) := by decide +kernel
theorem dX7_letterOf_19 : decode cX7_letterOf 19 = .ok (.iload_n 1, 1) := by decide +kernel
theorem dX7_letterOf_20 : decode cX7_letterOf 20 = .ok (.bipush 97, 2) := by decide +kernel
theorem dX7_letterOf_22 : decode cX7_letterOf 22 = .ok (.isub, 1) := by decide +kernel
theorem dX7_letterOf_23 : decode cX7_letterOf 23 = .ok (.imul, 1) := by decide +kernel
theorem dX7_letterOf_24 : decode cX7_letterOf 24 = .ok (.ireturn, 1) := by decide +kernel
theorem dX7_letterOf_25 : decode cX7_letterOf 25 = .ok (.iload_n 1, 1) := by decide +kernel
theorem dX7_letterOf_26 : decode cX7_letterOf 26 = .ok (.bipush 65, 2) := by decide +kernel
theorem dX7_letterOf_28 : decode cX7_letterOf 28 = .ok (.bipush 65, 2) := by decide +kernel
theorem dX7_letterOf_30 : decode cX7_letterOf 30 = .ok (.aload_n 0, 1) := by decide +kernel
theorem dX7_letterOf_31 : decode cX7_letterOf 31 = .ok (.getfield 96, 3) := by decide +kernel
theorem dX7_letterOf_34 : decode cX7_letterOf 34 = .ok (.iadd, 1) := by decide +kernel
theorem dX7_letterOf_35 : decode cX7_letterOf 35 = .ok (.iconst 1, 1) := by decide +kernel
theorem dX7_letterOf_36 : decode cX7_letterOf 36 = .ok (.isub, 1) := by decide +kernel
theorem dX7_letterOf_37 : decode cX7_letterOf 37 = .ok (.invokestatic 69, 3) := by decide +kernel
theorem dX7_letterOf_40 : decode cX7_letterOf 40 = .ok (.ifCond .eq 14, 3) := by decide +kernel
theorem dX7_letterOf_43 : decode cX7_letterOf 43 = .ok (.iconst 2, 1) := by decide +kernel
theorem dX7_letterOf_44 : decode cX7_letterOf 44 = .ok (.iload_n 1, 1) := by decide +kernel
theorem dX7_letterOf_45 : decode cX7_letterOf 45 = .ok (.bipush 65, 2) := by decide +kernel
theorem dX7_letterOf_47 : decode cX7_letterOf 47 = .ok (.isub, 1) := by decide +kernel
theorem dX7_letterOf_48 : decode cX7_letterOf 48 = .ok (.imul, 1) := by decide +kernel
theorem dX7_letterOf_49 : decode cX7_letterOf 49 = .ok (.iconst 1, 1) := by decide +kernel
theorem dX7_letterOf_50 : decode cX7_letterOf 50 = .ok (.iadd, 1) := by decide +kernel
theorem dX7_letterOf_51 : decode cX7_letterOf 51 = .ok (.goto 4, 3) := by decide +kernel
theorem dX7_letterOf_54 : decode cX7_letterOf 54 = .ok (.iconst (-1), 1) := by decide +kernel
theorem dX7_letterOf_55 : decode cX7_letterOf 55 = .ok (.ireturn, 1) := by decide +kernel
theorem dX7_begin_0 : decode cX7_begin 0 = .ok (.aload_n 0, 1) := by decide +kernel
theorem dX7_begin_1 : decode cX7_begin 1 = .ok (.iconst 0, 1) := by decide +kernel
theorem dX7_begin_2 : decode cX7_begin 2 = .ok (.putfield 105, 3) := by decide +kernel
theorem dX7_begin_5 : decode cX7_begin 5 = .ok (.return_, 1) := by decide +kernel
theorem dX7_comes_0 : decode cX7_comes 0 = .ok (.aload_n 0, 1) := by decide +kernel
theorem dX7_comes_1 : decode cX7_comes 1 = .ok (.getfield 105, 3) := by decide +kernel
theorem dX7_comes_4 : decode cX7_comes 4 = .ok (.ifCond .le 33, 3) := by decide +kernel
theorem dX7_comes_7 : decode cX7_comes 7 = .ok (.aload_n 0, 1) := by decide +kernel
theorem dX7_comes_8 : decode cX7_comes 8 = .ok (.getfield 35, 3) := by decide +kernel
theorem dX7_comes_11 : decode cX7_comes 11 = .ok (.aload_n 0, 1) := by decide +kernel
theorem dX7_comes_12 : decode cX7_comes 12 = .ok (.getfield 105, 3) := by decide +kernel
theorem dX7_comes_15 : decode cX7_comes 15 = .ok (.iconst 1, 1) := by decide +kernel
theorem dX7_comes_16 : decode cX7_comes 16 = .ok (.isub, 1) := by decide +kernel
theorem dX7_comes_17 : decode cX7_comes 17 = .ok (.iaload, 1) := by decide +kernel
theorem dX7_comes_18 : decode cX7_comes 18 = .ok (.iconst 1, 1) := by decide +kernel
theorem dX7_comes_19 : decode cX7_comes 19 = .ok (.ixor, 1) := by decide +kernel
theorem dX7_comes_20 : decode cX7_comes 20 = .ok (.iload_n 1, 1) := by decide +kernel
theorem dX7_comes_21 : decode cX7_comes 21 = .ok (.if_icmp .ne 16, 3) := by decide +kernel
theorem dX7_comes_24 : decode cX7_comes 24 = .ok (.aload_n 0, 1) := by decide +kernel
theorem dX7_comes_25 : decode cX7_comes 25 = .ok (.dup, 1) := by decide +kernel
theorem dX7_comes_26 : decode cX7_comes 26 = .ok (.getfield 105, 3) := by decide +kernel
theorem dX7_comes_29 : decode cX7_comes 29 = .ok (.iconst 1, 1) := by decide +kernel
theorem dX7_comes_30 : decode cX7_comes 30 = .ok (.isub, 1) := by decide +kernel
theorem dX7_comes_31 : decode cX7_comes 31 = .ok (.putfield 105, 3) := by decide +kernel
theorem dX7_comes_34 : decode cX7_comes 34 = .ok (.goto 23, 3) := by decide +kernel
theorem dX7_comes_37 : decode cX7_comes 37 = .ok (.aload_n 0, 1) := by decide +kernel
theorem dX7_comes_38 : decode cX7_comes 38 = .ok (.getfield 35, 3) := by decide +kernel
theorem dX7_comes_41 : decode cX7_comes 41 = .ok (.aload_n 0, 1) := by decide +kernel
theorem dX7_comes_42 : decode cX7_comes 42 = .ok (.getfield 105, 3) := by decide +kernel
theorem dX7_comes_45 : decode cX7_comes 45 = .ok (.iload_n 1, 1) := by decide +kernel
theorem dX7_comes_46 : decode cX7_comes 46 = .ok (.iastore, 1) := by decide +kernel
theorem dX7_comes_47 : decode cX7_comes 47 = .ok (.aload_n 0, 1) := by decide +kernel
theorem dX7_comes_48 : decode cX7_comes 48 = .ok (.dup, 1) := by decide +kernel
theorem dX7_comes_49 : decode cX7_comes 49 = .ok (.getfield 105, 3) := by decide +kernel
theorem dX7_comes_52 : decode cX7_comes 52 = .ok (.iconst 1, 1) := by decide +kernel
theorem dX7_comes_53 : decode cX7_comes 53 = .ok (.iadd, 1) := by decide +kernel
theorem dX7_comes_54 : decode cX7_comes 54 = .ok (.putfield 105, 3) := by decide +kernel
theorem dX7_comes_57 : decode cX7_comes 57 = .ok (.return_, 1) := by decide +kernel
theorem dX7_comesWord_0 : decode cX7_comesWord 0 = .ok (.iconst 0, 1) := by decide +kernel
theorem dX7_comesWord_1 : decode cX7_comesWord 1 = .ok (.istore_n 2, 1) := by decide +kernel
theorem dX7_comesWord_2 : decode cX7_comesWord 2 = .ok (.iload_n 2, 1) := by decide +kernel
theorem dX7_comesWord_3 : decode cX7_comesWord 3 = .ok (.aload_n 0, 1) := by decide +kernel
theorem dX7_comesWord_4 : decode cX7_comesWord 4 = .ok (.getfield 16, 3) := by decide +kernel
theorem dX7_comesWord_7 : decode cX7_comesWord 7 = .ok (.iload_n 1, 1) := by decide +kernel
theorem dX7_comesWord_8 : decode cX7_comesWord 8 = .ok (.iaload, 1) := by decide +kernel
theorem dX7_comesWord_9 : decode cX7_comesWord 9 = .ok (.if_icmp .ge 24, 3) := by decide +kernel
theorem dX7_comesWord_12 : decode cX7_comesWord 12 = .ok (.aload_n 0, 1) := by decide +kernel
theorem dX7_comesWord_13 : decode cX7_comesWord 13 = .ok (.aload_n 0, 1) := by decide +kernel
theorem dX7_comesWord_14 : decode cX7_comesWord 14 = .ok (.getfield 19, 3) := by decide +kernel
theorem dX7_comesWord_17 : decode cX7_comesWord 17 = .ok (.bipush 16, 2) := by decide +kernel
theorem dX7_comesWord_19 : decode cX7_comesWord 19 = .ok (.iload_n 1, 1) := by decide +kernel
theorem dX7_comesWord_20 : decode cX7_comesWord 20 = .ok (.imul, 1) := by decide +kernel
theorem dX7_comesWord_21 : decode cX7_comesWord 21 = .ok (.iload_n 2, 1) := by decide +kernel
theorem dX7_comesWord_22 : decode cX7_comesWord 22 = .ok (.iadd, 1) := by decide +kernel
theorem dX7_comesWord_23 : decode cX7_comesWord 23 = .ok (.iaload, 1) := by decide +kernel
theorem dX7_comesWord_24 : decode cX7_comesWord 24 = .ok (.invokevirtual 108, 3) := by decide +kernel
theorem dX7_comesWord_27 : decode cX7_comesWord 27 = .ok (.iinc 2 1, 3) := by decide +kernel
theorem dX7_comesWord_30 : decode cX7_comesWord 30 = .ok (.goto (-28), 3) := by decide +kernel
theorem dX7_comesWord_33 : decode cX7_comesWord 33 = .ok (.return_, 1) := by decide +kernel
theorem dX7_comesInverse_0 : decode cX7_comesInverse 0 = .ok (.aload_n 0, 1) := by decide +kernel
theorem dX7_comesInverse_1 : decode cX7_comesInverse 1 = .ok (.getfield 16, 3) := by decide +kernel
theorem dX7_comesInverse_4 : decode cX7_comesInverse 4 = .ok (.iload_n 1, 1) := by decide +kernel
theorem dX7_comesInverse_5 : decode cX7_comesInverse 5 = .ok (.iaload, 1) := by decide +kernel
theorem dX7_comesInverse_6 : decode cX7_comesInverse 6 = .ok (.iconst 1, 1) := by decide +kernel
theorem dX7_comesInverse_7 : decode cX7_comesInverse 7 = .ok (.isub, 1) := by decide +kernel
theorem dX7_comesInverse_8 : decode cX7_comesInverse 8 = .ok (.istore_n 2, 1) := by decide +kernel
theorem dX7_comesInverse_9 : decode cX7_comesInverse 9 = .ok (.iload_n 2, 1) := by decide +kernel
theorem dX7_comesInverse_10 : decode cX7_comesInverse 10 = .ok (.ifCond .lt 26, 3) := by decide +kernel
theorem dX7_comesInverse_13 : decode cX7_comesInverse 13 = .ok (.aload_n 0, 1) := by decide +kernel
theorem dX7_comesInverse_14 : decode cX7_comesInverse 14 = .ok (.aload_n 0, 1) := by decide +kernel
theorem dX7_comesInverse_15 : decode cX7_comesInverse 15 = .ok (.getfield 19, 3) := by decide +kernel
theorem dX7_comesInverse_18 : decode cX7_comesInverse 18 = .ok (.bipush 16, 2) := by decide +kernel
theorem dX7_comesInverse_20 : decode cX7_comesInverse 20 = .ok (.iload_n 1, 1) := by decide +kernel
theorem dX7_comesInverse_21 : decode cX7_comesInverse 21 = .ok (.imul, 1) := by decide +kernel
theorem dX7_comesInverse_22 : decode cX7_comesInverse 22 = .ok (.iload_n 2, 1) := by decide +kernel
theorem dX7_comesInverse_23 : decode cX7_comesInverse 23 = .ok (.iadd, 1) := by decide +kernel
theorem dX7_comesInverse_24 : decode cX7_comesInverse 24 = .ok (.iaload, 1) := by decide +kernel
theorem dX7_comesInverse_25 : decode cX7_comesInverse 25 = .ok (.iconst 1, 1) := by decide +kernel
theorem dX7_comesInverse_26 : decode cX7_comesInverse 26 = .ok (.ixor, 1) := by decide +kernel
theorem dX7_comesInverse_27 : decode cX7_comesInverse 27 = .ok (.invokevirtual 108, 3) := by decide +kernel
theorem dX7_comesInverse_30 : decode cX7_comesInverse 30 = .ok (.iinc 2 (-1), 3) := by decide +kernel
theorem dX7_comesInverse_33 : decode cX7_comesInverse 33 = .ok (.goto (-24), 3) := by decide +kernel
theorem dX7_comesInverse_36 : decode cX7_comesInverse 36 = .ok (.return_, 1) := by decide +kernel
theorem dX7_keepMade_0 : decode cX7_keepMade 0 = .ok (.aload_n 0, 1) := by decide +kernel
theorem dX7_keepMade_1 : decode cX7_keepMade 1 = .ok (.getfield 16, 3) := by decide +kernel
theorem dX7_keepMade_4 : decode cX7_keepMade 4 = .ok (.iload_n 1, 1) := by decide +kernel
theorem dX7_keepMade_5 : decode cX7_keepMade 5 = .ok (.aload_n 0, 1) := by decide +kernel
theorem dX7_keepMade_6 : decode cX7_keepMade 6 = .ok (.getfield 105, 3) := by decide +kernel
theorem dX7_keepMade_9 : decode cX7_keepMade 9 = .ok (.iastore, 1) := by decide +kernel
theorem dX7_keepMade_10 : decode cX7_keepMade 10 = .ok (.iconst 0, 1) := by decide +kernel
theorem dX7_keepMade_11 : decode cX7_keepMade 11 = .ok (.istore_n 2, 1) := by decide +kernel
theorem dX7_keepMade_12 : decode cX7_keepMade 12 = .ok (.iload_n 2, 1) := by decide +kernel
theorem dX7_keepMade_13 : decode cX7_keepMade 13 = .ok (.aload_n 0, 1) := by decide +kernel
theorem dX7_keepMade_14 : decode cX7_keepMade 14 = .ok (.getfield 105, 3) := by decide +kernel
theorem dX7_keepMade_17 : decode cX7_keepMade 17 = .ok (.if_icmp .ge 26, 3) := by decide +kernel
theorem dX7_keepMade_20 : decode cX7_keepMade 20 = .ok (.aload_n 0, 1) := by decide +kernel
theorem dX7_keepMade_21 : decode cX7_keepMade 21 = .ok (.getfield 19, 3) := by decide +kernel
theorem dX7_keepMade_24 : decode cX7_keepMade 24 = .ok (.bipush 16, 2) := by decide +kernel
theorem dX7_keepMade_26 : decode cX7_keepMade 26 = .ok (.iload_n 1, 1) := by decide +kernel
theorem dX7_keepMade_27 : decode cX7_keepMade 27 = .ok (.imul, 1) := by decide +kernel
theorem dX7_keepMade_28 : decode cX7_keepMade 28 = .ok (.iload_n 2, 1) := by decide +kernel
theorem dX7_keepMade_29 : decode cX7_keepMade 29 = .ok (.iadd, 1) := by decide +kernel
theorem dX7_keepMade_30 : decode cX7_keepMade 30 = .ok (.aload_n 0, 1) := by decide +kernel
theorem dX7_keepMade_31 : decode cX7_keepMade 31 = .ok (.getfield 35, 3) := by decide +kernel
theorem dX7_keepMade_34 : decode cX7_keepMade 34 = .ok (.iload_n 2, 1) := by decide +kernel
theorem dX7_keepMade_35 : decode cX7_keepMade 35 = .ok (.iaload, 1) := by decide +kernel
theorem dX7_keepMade_36 : decode cX7_keepMade 36 = .ok (.iastore, 1) := by decide +kernel
theorem dX7_keepMade_37 : decode cX7_keepMade 37 = .ok (.iinc 2 1, 3) := by decide +kernel
theorem dX7_keepMade_40 : decode cX7_keepMade 40 = .ok (.goto (-28), 3) := by decide +kernel
theorem dX7_keepMade_43 : decode cX7_keepMade 43 = .ok (.aload_n 0, 1) := by decide +kernel
theorem dX7_keepMade_44 : decode cX7_keepMade 44 = .ok (.getfield 105, 3) := by decide +kernel
theorem dX7_keepMade_47 : decode cX7_keepMade 47 = .ok (.ireturn, 1) := by decide +kernel
theorem dX7_word_0 : decode cX7_word 0 = .ok (.aload_n 0, 1) := by decide +kernel
theorem dX7_word_1 : decode cX7_word 1 = .ok (.iload_n 1, 1) := by decide +kernel
theorem dX7_word_2 : decode cX7_word 2 = .ok (.invokevirtual 112, 3) := by decide +kernel
theorem dX7_word_5 : decode cX7_word 5 = .ok (.ifCond .ne 6, 3) := by decide +kernel
theorem dX7_word_8 : decode cX7_word 8 = .ok (.bipush (-101), 2) := by decide +kernel
theorem dX7_word_10 : decode cX7_word 10 = .ok (.ireturn, 1) := by decide +kernel
theorem dX7_word_11 : decode cX7_word 11 = .ok (.aload_n 0, 1) := by decide +kernel
theorem dX7_word_12 : decode cX7_word 12 = .ok (.getfield 73, 3) := by decide +kernel
theorem dX7_word_15 : decode cX7_word 15 = .ok (.bipush 8, 2) := by decide +kernel
theorem dX7_word_17 : decode cX7_word 17 = .ok (.if_icmp .gt 7, 3) := by decide +kernel
theorem dX7_word_20 : decode cX7_word 20 = .ok (.iconst 1, 1) := by decide +kernel
theorem dX7_word_21 : decode cX7_word 21 = .ok (.goto 4, 3) := by decide +kernel
theorem dX7_word_24 : decode cX7_word 24 = .ok (.iconst 0, 1) := by decide +kernel
theorem dX7_word_25 : decode cX7_word 25 = .ok (.istore_n 2, 1) := by decide +kernel
theorem dX7_word_26 : decode cX7_word 26 = .ok (.iconst 0, 1) := by decide +kernel
theorem dX7_word_27 : decode cX7_word 27 = .ok (.istore_n 3, 1) := by decide +kernel
theorem dX7_word_28 : decode cX7_word 28 = .ok (.iload_n 3, 1) := by decide +kernel
theorem dX7_word_29 : decode cX7_word 29 = .ok (.aload_n 0, 1) := by decide +kernel
theorem dX7_word_30 : decode cX7_word 30 = .ok (.getfield 73, 3) := by decide +kernel
theorem dX7_word_33 : decode cX7_word 33 = .ok (.if_icmp .ge 33, 3) := by decide +kernel
theorem dX7_word_36 : decode cX7_word 36 = .ok (.iload_n 2, 1) := by decide +kernel
theorem dX7_word_37 : decode cX7_word 37 = .ok (.ifCond .eq 21, 3) := by decide +kernel
theorem dX7_word_40 : decode cX7_word 40 = .ok (.aload_n 0, 1) := by decide +kernel
theorem dX7_word_41 : decode cX7_word 41 = .ok (.aload_n 0, 1) := by decide +kernel
theorem dX7_word_42 : decode cX7_word 42 = .ok (.getfield 32, 3) := by decide +kernel
theorem dX7_word_45 : decode cX7_word 45 = .ok (.iload_n 3, 1) := by decide +kernel
theorem dX7_word_46 : decode cX7_word 46 = .ok (.iaload, 1) := by decide +kernel
theorem dX7_word_47 : decode cX7_word 47 = .ok (.invokevirtual 115, 3) := by decide +kernel
theorem dX7_word_50 : decode cX7_word 50 = .ok (.iconst (-1), 1) := by decide +kernel
theorem dX7_word_51 : decode cX7_word 51 = .ok (.if_icmp .eq 7, 3) := by decide +kernel
theorem dX7_word_54 : decode cX7_word 54 = .ok (.iconst 1, 1) := by decide +kernel
theorem dX7_word_55 : decode cX7_word 55 = .ok (.goto 4, 3) := by decide +kernel
theorem dX7_word_58 : decode cX7_word 58 = .ok (.iconst 0, 1) := by decide +kernel
theorem dX7_word_59 : decode cX7_word 59 = .ok (.istore_n 2, 1) := by decide +kernel
theorem dX7_word_60 : decode cX7_word 60 = .ok (.iinc 3 1, 3) := by decide +kernel
theorem dX7_word_63 : decode cX7_word 63 = .ok (.goto (-35), 3) := by decide +kernel
theorem dX7_word_66 : decode cX7_word 66 = .ok (.iload_n 2, 1) := by decide +kernel
theorem dX7_word_67 : decode cX7_word 67 = .ok (.ifCond .ne 6, 3) := by decide +kernel
theorem dX7_word_70 : decode cX7_word 70 = .ok (.bipush (-103), 2) := by decide +kernel
theorem dX7_word_72 : decode cX7_word 72 = .ok (.ireturn, 1) := by decide +kernel
theorem dX7_word_73 : decode cX7_word 73 = .ok (.aload_n 0, 1) := by decide +kernel
theorem dX7_word_74 : decode cX7_word 74 = .ok (.invokevirtual 118, 3) := by decide +kernel
theorem dX7_word_77 : decode cX7_word 77 = .ok (.iconst 0, 1) := by decide +kernel
theorem dX7_word_78 : decode cX7_word 78 = .ok (.istore_n 3, 1) := by decide +kernel
theorem dX7_word_79 : decode cX7_word 79 = .ok (.iload_n 3, 1) := by decide +kernel
theorem dX7_word_80 : decode cX7_word 80 = .ok (.aload_n 0, 1) := by decide +kernel
theorem dX7_word_81 : decode cX7_word 81 = .ok (.getfield 73, 3) := by decide +kernel
theorem dX7_word_84 : decode cX7_word 84 = .ok (.if_icmp .ge 23, 3) := by decide +kernel
theorem dX7_word_87 : decode cX7_word 87 = .ok (.aload_n 0, 1) := by decide +kernel
theorem dX7_word_88 : decode cX7_word 88 = .ok (.aload_n 0, 1) := by decide +kernel
theorem dX7_word_89 : decode cX7_word 89 = .ok (.aload_n 0, 1) := by decide +kernel
theorem dX7_word_90 : decode cX7_word 90 = .ok (.getfield 32, 3) := by decide +kernel
theorem dX7_word_93 : decode cX7_word 93 = .ok (.iload_n 3, 1) := by decide +kernel
theorem dX7_word_94 : decode cX7_word 94 = .ok (.iaload, 1) := by decide +kernel
theorem dX7_word_95 : decode cX7_word 95 = .ok (.invokevirtual 115, 3) := by decide +kernel
theorem dX7_word_98 : decode cX7_word 98 = .ok (.invokevirtual 108, 3) := by decide +kernel
theorem dX7_word_101 : decode cX7_word 101 = .ok (.iinc 3 1, 3) := by decide +kernel
theorem dX7_word_104 : decode cX7_word 104 = .ok (.goto (-25), 3) := by decide +kernel
theorem dX7_word_107 : decode cX7_word 107 = .ok (.aload_n 0, 1) := by decide +kernel
theorem dX7_word_108 : decode cX7_word 108 = .ok (.iconst 0, 1) := by decide +kernel
theorem dX7_word_109 : decode cX7_word 109 = .ok (.putfield 73, 3) := by decide +kernel
theorem dX7_word_112 : decode cX7_word 112 = .ok (.aload_n 0, 1) := by decide +kernel
theorem dX7_word_113 : decode cX7_word 113 = .ok (.iload_n 1, 1) := by decide +kernel
theorem dX7_word_114 : decode cX7_word 114 = .ok (.invokevirtual 121, 3) := by decide +kernel
theorem dX7_word_117 : decode cX7_word 117 = .ok (.ireturn, 1) := by decide +kernel
theorem dX7_flipOf_0 : decode cX7_flipOf 0 = .ok (.aload_n 0, 1) := by decide +kernel
theorem dX7_flipOf_1 : decode cX7_flipOf 1 = .ok (.getfield 7, 3) := by decide +kernel
theorem dX7_flipOf_4 : decode cX7_flipOf 4 = .ok (.iload_n 1, 1) := by decide +kernel
theorem dX7_flipOf_5 : decode cX7_flipOf 5 = .ok (.iaload, 1) := by decide +kernel
theorem dX7_flipOf_6 : decode cX7_flipOf 6 = .ok (.iconst 1, 1) := by decide +kernel
theorem dX7_flipOf_7 : decode cX7_flipOf 7 = .ok (.if_icmp .eq 23, 3) := by decide +kernel
theorem dX7_flipOf_10 : decode cX7_flipOf 10 = .ok (.aload_n 0, 1) := by decide +kernel
theorem dX7_flipOf_11 : decode cX7_flipOf 11 = .ok (.getfield 7, 3) := by decide +kernel
theorem dX7_flipOf_14 : decode cX7_flipOf 14 = .ok (.iload_n 1, 1) := by decide +kernel
theorem dX7_flipOf_15 : decode cX7_flipOf 15 = .ok (.iaload, 1) := by decide +kernel
theorem dX7_flipOf_16 : decode cX7_flipOf 16 = .ok (.iconst 2, 1) := by decide +kernel
theorem dX7_flipOf_17 : decode cX7_flipOf 17 = .ok (.if_icmp .eq 13, 3) := by decide +kernel
theorem dX7_flipOf_20 : decode cX7_flipOf 20 = .ok (.aload_n 0, 1) := by decide +kernel
theorem dX7_flipOf_21 : decode cX7_flipOf 21 = .ok (.getfield 7, 3) := by decide +kernel
theorem dX7_flipOf_24 : decode cX7_flipOf 24 = .ok (.iload_n 1, 1) := by decide +kernel
theorem dX7_flipOf_25 : decode cX7_flipOf 25 = .ok (.iaload, 1) := by decide +kernel
theorem dX7_flipOf_26 : decode cX7_flipOf 26 = .ok (.iconst 4, 1) := by decide +kernel
theorem dX7_flipOf_27 : decode cX7_flipOf 27 = .ok (.if_icmp .ne 7, 3) := by decide +kernel
theorem dX7_flipOf_30 : decode cX7_flipOf 30 = .ok (.iconst 1, 1) := by decide +kernel
theorem dX7_flipOf_31 : decode cX7_flipOf 31 = .ok (.goto 4, 3) := by decide +kernel
theorem dX7_flipOf_34 : decode cX7_flipOf 34 = .ok (.iconst 0, 1) := by decide +kernel
theorem dX7_flipOf_35 : decode cX7_flipOf 35 = .ok (.ireturn, 1) := by decide +kernel
theorem dX7_goesOn_0 : decode cX7_goesOn 0 = .ok (.aload_n 0, 1) := by decide +kernel
theorem dX7_goesOn_1 : decode cX7_goesOn 1 = .ok (.getfield 7, 3) := by decide +kernel
theorem dX7_goesOn_4 : decode cX7_goesOn 4 = .ok (.iload_n 1, 1) := by decide +kernel
theorem dX7_goesOn_5 : decode cX7_goesOn 5 = .ok (.iaload, 1) := by decide +kernel
theorem dX7_goesOn_6 : decode cX7_goesOn 6 = .ok (.tableswitch 50 0 2 #[26, 26, 37], 26) := by decide +kernel
theorem dX7_goesOn_32 : decode cX7_goesOn 32 = .ok (.aload_n 0, 1) := by decide +kernel
theorem dX7_goesOn_33 : decode cX7_goesOn 33 = .ok (.getfield 13, 3) := by decide +kernel
theorem dX7_goesOn_36 : decode cX7_goesOn 36 = .ok (.iconst 2, 1) := by decide +kernel
theorem dX7_goesOn_37 : decode cX7_goesOn 37 = .ok (.iload_n 1, 1) := by decide +kernel
theorem dX7_goesOn_38 : decode cX7_goesOn 38 = .ok (.imul, 1) := by decide +kernel
theorem dX7_goesOn_39 : decode cX7_goesOn 39 = .ok (.iload_n 2, 1) := by decide +kernel
theorem dX7_goesOn_40 : decode cX7_goesOn 40 = .ok (.iadd, 1) := by decide +kernel
theorem dX7_goesOn_41 : decode cX7_goesOn 41 = .ok (.iaload, 1) := by decide +kernel
theorem dX7_goesOn_42 : decode cX7_goesOn 42 = .ok (.ireturn, 1) := by decide +kernel
theorem dX7_goesOn_43 : decode cX7_goesOn 43 = .ok (.aload_n 0, 1) := by decide +kernel
theorem dX7_goesOn_44 : decode cX7_goesOn 44 = .ok (.getfield 13, 3) := by decide +kernel
theorem dX7_goesOn_47 : decode cX7_goesOn 47 = .ok (.iconst 2, 1) := by decide +kernel
theorem dX7_goesOn_48 : decode cX7_goesOn 48 = .ok (.iload_n 1, 1) := by decide +kernel
theorem dX7_goesOn_49 : decode cX7_goesOn 49 = .ok (.imul, 1) := by decide +kernel
theorem dX7_goesOn_50 : decode cX7_goesOn 50 = .ok (.iconst 1, 1) := by decide +kernel
theorem dX7_goesOn_51 : decode cX7_goesOn 51 = .ok (.iadd, 1) := by decide +kernel
theorem dX7_goesOn_52 : decode cX7_goesOn 52 = .ok (.iload_n 2, 1) := by decide +kernel
theorem dX7_goesOn_53 : decode cX7_goesOn 53 = .ok (.isub, 1) := by decide +kernel
theorem dX7_goesOn_54 : decode cX7_goesOn 54 = .ok (.iaload, 1) := by decide +kernel
theorem dX7_goesOn_55 : decode cX7_goesOn 55 = .ok (.ireturn, 1) := by decide +kernel
theorem dX7_goesOn_56 : decode cX7_goesOn 56 = .ok (.iconst (-1), 1) := by decide +kernel
theorem dX7_goesOn_57 : decode cX7_goesOn 57 = .ok (.ireturn, 1) := by decide +kernel
theorem dX7_letterOn_0 : decode cX7_letterOn 0 = .ok (.iload_n 1, 1) := by decide +kernel
theorem dX7_letterOn_1 : decode cX7_letterOn 1 = .ok (.iconst 2, 1) := by decide +kernel
theorem dX7_letterOn_2 : decode cX7_letterOn 2 = .ok (.idiv, 1) := by decide +kernel
theorem dX7_letterOn_3 : decode cX7_letterOn 3 = .ok (.istore_n 3, 1) := by decide +kernel
theorem dX7_letterOn_4 : decode cX7_letterOn 4 = .ok (.iload_n 1, 1) := by decide +kernel
theorem dX7_letterOn_5 : decode cX7_letterOn 5 = .ok (.iconst 2, 1) := by decide +kernel
theorem dX7_letterOn_6 : decode cX7_letterOn 6 = .ok (.irem, 1) := by decide +kernel
theorem dX7_letterOn_7 : decode cX7_letterOn 7 = .ok (.istore 4, 2) := by decide +kernel
theorem dX7_letterOn_9 : decode cX7_letterOn 9 = .ok (.aload_n 0, 1) := by decide +kernel
theorem dX7_letterOn_10 : decode cX7_letterOn 10 = .ok (.iload_n 3, 1) := by decide +kernel
theorem dX7_letterOn_11 : decode cX7_letterOn 11 = .ok (.iload_n 2, 1) := by decide +kernel
theorem dX7_letterOn_12 : decode cX7_letterOn 12 = .ok (.iload 4, 2) := by decide +kernel
theorem dX7_letterOn_14 : decode cX7_letterOn 14 = .ok (.aload_n 0, 1) := by decide +kernel
theorem dX7_letterOn_15 : decode cX7_letterOn 15 = .ok (.iload_n 3, 1) := by decide +kernel
theorem dX7_letterOn_16 : decode cX7_letterOn 16 = .ok (.invokevirtual 124, 3) := by decide +kernel
theorem dX7_letterOn_19 : decode cX7_letterOn 19 = .ok (.imul, 1) := by decide +kernel
theorem dX7_letterOn_20 : decode cX7_letterOn 20 = .ok (.ixor, 1) := by decide +kernel
theorem dX7_letterOn_21 : decode cX7_letterOn 21 = .ok (.invokevirtual 127, 3) := by decide +kernel
theorem dX7_letterOn_24 : decode cX7_letterOn 24 = .ok (.istore 5, 2) := by decide +kernel
theorem dX7_letterOn_26 : decode cX7_letterOn 26 = .ok (.iload 5, 2) := by decide +kernel
theorem dX7_letterOn_28 : decode cX7_letterOn 28 = .ok (.iconst (-1), 1) := by decide +kernel
theorem dX7_letterOn_29 : decode cX7_letterOn 29 = .ok (.if_icmp .ne 7, 3) := by decide +kernel
theorem dX7_letterOn_32 : decode cX7_letterOn 32 = .ok (.iconst (-1), 1) := by decide +kernel
theorem dX7_letterOn_33 : decode cX7_letterOn 33 = .ok (.goto 10, 3) := by decide +kernel
theorem dX7_letterOn_36 : decode cX7_letterOn 36 = .ok (.iconst 2, 1) := by decide +kernel
theorem dX7_letterOn_37 : decode cX7_letterOn 37 = .ok (.iload 5, 2) := by decide +kernel
theorem dX7_letterOn_39 : decode cX7_letterOn 39 = .ok (.imul, 1) := by decide +kernel
theorem dX7_letterOn_40 : decode cX7_letterOn 40 = .ok (.iload 4, 2) := by decide +kernel
theorem dX7_letterOn_42 : decode cX7_letterOn 42 = .ok (.iadd, 1) := by decide +kernel
theorem dX7_letterOn_43 : decode cX7_letterOn 43 = .ok (.ireturn, 1) := by decide +kernel
theorem dX7_actLetter_0 : decode cX7_actLetter 0 = .ok (.iload_n 1, 1) := by decide +kernel
theorem dX7_actLetter_1 : decode cX7_actLetter 1 = .ok (.istore 4, 2) := by decide +kernel
theorem dX7_actLetter_3 : decode cX7_actLetter 3 = .ok (.iload_n 2, 1) := by decide +kernel
theorem dX7_actLetter_4 : decode cX7_actLetter 4 = .ok (.istore 5, 2) := by decide +kernel
theorem dX7_actLetter_6 : decode cX7_actLetter 6 = .ok (.iload_n 3, 1) := by decide +kernel
theorem dX7_actLetter_7 : decode cX7_actLetter 7 = .ok (.iconst 1, 1) := by decide +kernel
theorem dX7_actLetter_8 : decode cX7_actLetter 8 = .ok (.isub, 1) := by decide +kernel
theorem dX7_actLetter_9 : decode cX7_actLetter 9 = .ok (.istore 6, 2) := by decide +kernel
theorem dX7_actLetter_11 : decode cX7_actLetter 11 = .ok (.iload 6, 2) := by decide +kernel
theorem dX7_actLetter_13 : decode cX7_actLetter 13 = .ok (.ifCond .lt 49, 3) := by decide +kernel
theorem dX7_actLetter_16 : decode cX7_actLetter 16 = .ok (.iload 4, 2) := by decide +kernel
theorem dX7_actLetter_18 : decode cX7_actLetter 18 = .ok (.iconst (-1), 1) := by decide +kernel
theorem dX7_actLetter_19 : decode cX7_actLetter 19 = .ok (.if_icmp .eq 43, 3) := by decide +kernel
theorem dX7_actLetter_22 : decode cX7_actLetter 22 = .ok (.iload_n 2, 1) := by decide +kernel
theorem dX7_actLetter_23 : decode cX7_actLetter 23 = .ok (.iload 6, 2) := by decide +kernel
theorem dX7_actLetter_25 : decode cX7_actLetter 25 = .ok (.ishr, 1) := by decide +kernel
theorem dX7_actLetter_26 : decode cX7_actLetter 26 = .ok (.iconst 1, 1) := by decide +kernel
theorem dX7_actLetter_27 : decode cX7_actLetter 27 = .ok (.iand, 1) := by decide +kernel
theorem dX7_actLetter_28 : decode cX7_actLetter 28 = .ok (.istore 7, 2) := by decide +kernel
theorem dX7_actLetter_30 : decode cX7_actLetter 30 = .ok (.iload 5, 2) := by decide +kernel
theorem dX7_actLetter_32 : decode cX7_actLetter 32 = .ok (.aload_n 0, 1) := by decide +kernel
theorem dX7_actLetter_33 : decode cX7_actLetter 33 = .ok (.iload 4, 2) := by decide +kernel
theorem dX7_actLetter_35 : decode cX7_actLetter 35 = .ok (.iconst 2, 1) := by decide +kernel
theorem dX7_actLetter_36 : decode cX7_actLetter 36 = .ok (.idiv, 1) := by decide +kernel
theorem dX7_actLetter_37 : decode cX7_actLetter 37 = .ok (.invokevirtual 124, 3) := by decide +kernel
theorem dX7_actLetter_40 : decode cX7_actLetter 40 = .ok (.iload 6, 2) := by decide +kernel
theorem dX7_actLetter_42 : decode cX7_actLetter 42 = .ok (.ishl, 1) := by decide +kernel
theorem dX7_actLetter_43 : decode cX7_actLetter 43 = .ok (.ixor, 1) := by decide +kernel
theorem dX7_actLetter_44 : decode cX7_actLetter 44 = .ok (.istore 5, 2) := by decide +kernel
theorem dX7_actLetter_46 : decode cX7_actLetter 46 = .ok (.aload_n 0, 1) := by decide +kernel
theorem dX7_actLetter_47 : decode cX7_actLetter 47 = .ok (.iload 4, 2) := by decide +kernel
theorem dX7_actLetter_49 : decode cX7_actLetter 49 = .ok (.iload 7, 2) := by decide +kernel
theorem dX7_actLetter_51 : decode cX7_actLetter 51 = .ok (.invokevirtual 131, 3) := by decide +kernel
theorem dX7_actLetter_54 : decode cX7_actLetter 54 = .ok (.istore 4, 2) := by decide +kernel
theorem dX7_actLetter_56 : decode cX7_actLetter 56 = .ok (.iinc 6 (-1), 3) := by decide +kernel
theorem dX7_actLetter_59 : decode cX7_actLetter 59 = .ok (.goto (-48), 3) := by decide +kernel
theorem dX7_actLetter_62 : decode cX7_actLetter 62 = .ok (.iload 5, 2) := by decide +kernel
theorem dX7_actLetter_64 : decode cX7_actLetter 64 = .ok (.ireturn, 1) := by decide +kernel
theorem dX7_actWord_0 : decode cX7_actWord 0 = .ok (.iload_n 2, 1) := by decide +kernel
theorem dX7_actWord_1 : decode cX7_actWord 1 = .ok (.istore 4, 2) := by decide +kernel
theorem dX7_actWord_3 : decode cX7_actWord 3 = .ok (.iconst 0, 1) := by decide +kernel
theorem dX7_actWord_4 : decode cX7_actWord 4 = .ok (.istore 5, 2) := by decide +kernel
theorem dX7_actWord_6 : decode cX7_actWord 6 = .ok (.iload 5, 2) := by decide +kernel
theorem dX7_actWord_8 : decode cX7_actWord 8 = .ok (.aload_n 0, 1) := by decide +kernel
theorem dX7_actWord_9 : decode cX7_actWord 9 = .ok (.getfield 16, 3) := by decide +kernel
theorem dX7_actWord_12 : decode cX7_actWord 12 = .ok (.iload_n 1, 1) := by decide +kernel
theorem dX7_actWord_13 : decode cX7_actWord 13 = .ok (.iaload, 1) := by decide +kernel
theorem dX7_actWord_14 : decode cX7_actWord 14 = .ok (.if_icmp .ge 30, 3) := by decide +kernel
theorem dX7_actWord_17 : decode cX7_actWord 17 = .ok (.aload_n 0, 1) := by decide +kernel
theorem dX7_actWord_18 : decode cX7_actWord 18 = .ok (.aload_n 0, 1) := by decide +kernel
theorem dX7_actWord_19 : decode cX7_actWord 19 = .ok (.getfield 19, 3) := by decide +kernel
theorem dX7_actWord_22 : decode cX7_actWord 22 = .ok (.bipush 16, 2) := by decide +kernel
theorem dX7_actWord_24 : decode cX7_actWord 24 = .ok (.iload_n 1, 1) := by decide +kernel
theorem dX7_actWord_25 : decode cX7_actWord 25 = .ok (.imul, 1) := by decide +kernel
theorem dX7_actWord_26 : decode cX7_actWord 26 = .ok (.iload 5, 2) := by decide +kernel
theorem dX7_actWord_28 : decode cX7_actWord 28 = .ok (.iadd, 1) := by decide +kernel
theorem dX7_actWord_29 : decode cX7_actWord 29 = .ok (.iaload, 1) := by decide +kernel
theorem dX7_actWord_30 : decode cX7_actWord 30 = .ok (.iload 4, 2) := by decide +kernel
theorem dX7_actWord_32 : decode cX7_actWord 32 = .ok (.iload_n 3, 1) := by decide +kernel
theorem dX7_actWord_33 : decode cX7_actWord 33 = .ok (.invokevirtual 134, 3) := by decide +kernel
theorem dX7_actWord_36 : decode cX7_actWord 36 = .ok (.istore 4, 2) := by decide +kernel
theorem dX7_actWord_38 : decode cX7_actWord 38 = .ok (.iinc 5 1, 3) := by decide +kernel
theorem dX7_actWord_41 : decode cX7_actWord 41 = .ok (.goto (-35), 3) := by decide +kernel
theorem dX7_actWord_44 : decode cX7_actWord 44 = .ok (.iload 4, 2) := by decide +kernel
theorem dX7_actWord_46 : decode cX7_actWord 46 = .ok (.ireturn, 1) := by decide +kernel
theorem dX7_isAlike_0 : decode cX7_isAlike 0 = .ok (.iconst 1, 1) := by decide +kernel
theorem dX7_isAlike_1 : decode cX7_isAlike 1 = .ok (.istore_n 3, 1) := by decide +kernel
theorem dX7_isAlike_2 : decode cX7_isAlike 2 = .ok (.iconst 0, 1) := by decide +kernel
theorem dX7_isAlike_3 : decode cX7_isAlike 3 = .ok (.istore 4, 2) := by decide +kernel
theorem dX7_isAlike_5 : decode cX7_isAlike 5 = .ok (.iload 4, 2) := by decide +kernel
theorem dX7_isAlike_7 : decode cX7_isAlike 7 = .ok (.sipush 128, 3) := by decide +kernel
theorem dX7_isAlike_10 : decode cX7_isAlike 10 = .ok (.if_icmp .ge 44, 3) := by decide +kernel
theorem dX7_isAlike_13 : decode cX7_isAlike 13 = .ok (.iload_n 3, 1) := by decide +kernel
theorem dX7_isAlike_14 : decode cX7_isAlike 14 = .ok (.ifCond .eq 32, 3) := by decide +kernel
theorem dX7_isAlike_17 : decode cX7_isAlike 17 = .ok (.aload_n 0, 1) := by decide +kernel
theorem dX7_isAlike_18 : decode cX7_isAlike 18 = .ok (.iconst 2, 1) := by decide +kernel
theorem dX7_isAlike_19 : decode cX7_isAlike 19 = .ok (.iload_n 1, 1) := by decide +kernel
theorem dX7_isAlike_20 : decode cX7_isAlike 20 = .ok (.imul, 1) := by decide +kernel
theorem dX7_isAlike_21 : decode cX7_isAlike 21 = .ok (.iload 4, 2) := by decide +kernel
theorem dX7_isAlike_23 : decode cX7_isAlike 23 = .ok (.bipush 7, 2) := by decide +kernel
theorem dX7_isAlike_25 : decode cX7_isAlike 25 = .ok (.invokevirtual 134, 3) := by decide +kernel
theorem dX7_isAlike_28 : decode cX7_isAlike 28 = .ok (.aload_n 0, 1) := by decide +kernel
theorem dX7_isAlike_29 : decode cX7_isAlike 29 = .ok (.iconst 2, 1) := by decide +kernel
theorem dX7_isAlike_30 : decode cX7_isAlike 30 = .ok (.iload_n 2, 1) := by decide +kernel
theorem dX7_isAlike_31 : decode cX7_isAlike 31 = .ok (.imul, 1) := by decide +kernel
theorem dX7_isAlike_32 : decode cX7_isAlike 32 = .ok (.iload 4, 2) := by decide +kernel
theorem dX7_isAlike_34 : decode cX7_isAlike 34 = .ok (.bipush 7, 2) := by decide +kernel
theorem dX7_isAlike_36 : decode cX7_isAlike 36 = .ok (.invokevirtual 134, 3) := by decide +kernel
theorem dX7_isAlike_39 : decode cX7_isAlike 39 = .ok (.if_icmp .ne 7, 3) := by decide +kernel
theorem dX7_isAlike_42 : decode cX7_isAlike 42 = .ok (.iconst 1, 1) := by decide +kernel
theorem dX7_isAlike_43 : decode cX7_isAlike 43 = .ok (.goto 4, 3) := by decide +kernel
theorem dX7_isAlike_46 : decode cX7_isAlike 46 = .ok (.iconst 0, 1) := by decide +kernel
theorem dX7_isAlike_47 : decode cX7_isAlike 47 = .ok (.istore_n 3, 1) := by decide +kernel
theorem dX7_isAlike_48 : decode cX7_isAlike 48 = .ok (.iinc 4 1, 3) := by decide +kernel
theorem dX7_isAlike_51 : decode cX7_isAlike 51 = .ok (.goto (-46), 3) := by decide +kernel
theorem dX7_isAlike_54 : decode cX7_isAlike 54 = .ok (.iload_n 3, 1) := by decide +kernel
theorem dX7_isAlike_55 : decode cX7_isAlike 55 = .ok (.ireturn, 1) := by decide +kernel
theorem dX7_leastAlike_0 : decode cX7_leastAlike 0 = .ok (.iconst 0, 1) := by decide +kernel
theorem dX7_leastAlike_1 : decode cX7_leastAlike 1 = .ok (.istore_n 2, 1) := by decide +kernel
theorem dX7_leastAlike_2 : decode cX7_leastAlike 2 = .ok (.aload_n 0, 1) := by decide +kernel
theorem dX7_leastAlike_3 : decode cX7_leastAlike 3 = .ok (.iload_n 2, 1) := by decide +kernel
theorem dX7_leastAlike_4 : decode cX7_leastAlike 4 = .ok (.iload_n 1, 1) := by decide +kernel
theorem dX7_leastAlike_5 : decode cX7_leastAlike 5 = .ok (.invokevirtual 138, 3) := by decide +kernel
theorem dX7_leastAlike_8 : decode cX7_leastAlike 8 = .ok (.ifCond .ne 9, 3) := by decide +kernel
theorem dX7_leastAlike_11 : decode cX7_leastAlike 11 = .ok (.iinc 2 1, 3) := by decide +kernel
theorem dX7_leastAlike_14 : decode cX7_leastAlike 14 = .ok (.goto (-12), 3) := by decide +kernel
theorem dX7_leastAlike_17 : decode cX7_leastAlike 17 = .ok (.iload_n 2, 1) := by decide +kernel
theorem dX7_leastAlike_18 : decode cX7_leastAlike 18 = .ok (.ireturn, 1) := by decide +kernel
theorem dX7_nextOf_0 : decode cX7_nextOf 0 = .ok (.iconst 0, 1) := by decide +kernel
theorem dX7_nextOf_1 : decode cX7_nextOf 1 = .ok (.istore_n 2, 1) := by decide +kernel
theorem dX7_nextOf_2 : decode cX7_nextOf 2 = .ok (.iconst 0, 1) := by decide +kernel
theorem dX7_nextOf_3 : decode cX7_nextOf 3 = .ok (.istore_n 3, 1) := by decide +kernel
theorem dX7_nextOf_4 : decode cX7_nextOf 4 = .ok (.iload_n 3, 1) := by decide +kernel
theorem dX7_nextOf_5 : decode cX7_nextOf 5 = .ok (.iconst 2, 1) := by decide +kernel
theorem dX7_nextOf_6 : decode cX7_nextOf 6 = .ok (.if_icmp .ge 34, 3) := by decide +kernel
theorem dX7_nextOf_9 : decode cX7_nextOf 9 = .ok (.aload_n 0, 1) := by decide +kernel
theorem dX7_nextOf_10 : decode cX7_nextOf 10 = .ok (.iload_n 1, 1) := by decide +kernel
theorem dX7_nextOf_11 : decode cX7_nextOf 11 = .ok (.iload_n 3, 1) := by decide +kernel
theorem dX7_nextOf_12 : decode cX7_nextOf 12 = .ok (.invokevirtual 127, 3) := by decide +kernel
theorem dX7_nextOf_15 : decode cX7_nextOf 15 = .ok (.istore 4, 2) := by decide +kernel
theorem dX7_nextOf_17 : decode cX7_nextOf 17 = .ok (.iload_n 2, 1) := by decide +kernel
theorem dX7_nextOf_18 : decode cX7_nextOf 18 = .ok (.iload 4, 2) := by decide +kernel
theorem dX7_nextOf_20 : decode cX7_nextOf 20 = .ok (.iconst (-1), 1) := by decide +kernel
theorem dX7_nextOf_21 : decode cX7_nextOf 21 = .ok (.if_icmp .ne 7, 3) := by decide +kernel
theorem dX7_nextOf_24 : decode cX7_nextOf 24 = .ok (.iconst 0, 1) := by decide +kernel
theorem dX7_nextOf_25 : decode cX7_nextOf 25 = .ok (.goto 7, 3) := by decide +kernel
theorem dX7_nextOf_28 : decode cX7_nextOf 28 = .ok (.iconst 1, 1) := by decide +kernel
theorem dX7_nextOf_29 : decode cX7_nextOf 29 = .ok (.iload 4, 2) := by decide +kernel
theorem dX7_nextOf_31 : decode cX7_nextOf 31 = .ok (.ishl, 1) := by decide +kernel
theorem dX7_nextOf_32 : decode cX7_nextOf 32 = .ok (.ior, 1) := by decide +kernel
theorem dX7_nextOf_33 : decode cX7_nextOf 33 = .ok (.istore_n 2, 1) := by decide +kernel
theorem dX7_nextOf_34 : decode cX7_nextOf 34 = .ok (.iinc 3 1, 3) := by decide +kernel
theorem dX7_nextOf_37 : decode cX7_nextOf 37 = .ok (.goto (-33), 3) := by decide +kernel
theorem dX7_nextOf_40 : decode cX7_nextOf 40 = .ok (.iload_n 2, 1) := by decide +kernel
theorem dX7_nextOf_41 : decode cX7_nextOf 41 = .ok (.ireturn, 1) := by decide +kernel
theorem dX7_reach_0 : decode cX7_reach 0 = .ok (.aload_n 0, 1) := by decide +kernel
theorem dX7_reach_1 : decode cX7_reach 1 = .ok (.iload_n 1, 1) := by decide +kernel
theorem dX7_reach_2 : decode cX7_reach 2 = .ok (.invokevirtual 141, 3) := by decide +kernel
theorem dX7_reach_5 : decode cX7_reach 5 = .ok (.istore_n 2, 1) := by decide +kernel
theorem dX7_reach_6 : decode cX7_reach 6 = .ok (.iconst 0, 1) := by decide +kernel
theorem dX7_reach_7 : decode cX7_reach 7 = .ok (.istore_n 3, 1) := by decide +kernel
theorem dX7_reach_8 : decode cX7_reach 8 = .ok (.iload_n 3, 1) := by decide +kernel
theorem dX7_reach_9 : decode cX7_reach 9 = .ok (.bipush 6, 2) := by decide +kernel
theorem dX7_reach_11 : decode cX7_reach 11 = .ok (.if_icmp .ge 49, 3) := by decide +kernel
theorem dX7_reach_14 : decode cX7_reach 14 = .ok (.iconst 0, 1) := by decide +kernel
theorem dX7_reach_15 : decode cX7_reach 15 = .ok (.istore 4, 2) := by decide +kernel
theorem dX7_reach_17 : decode cX7_reach 17 = .ok (.iload 4, 2) := by decide +kernel
theorem dX7_reach_19 : decode cX7_reach 19 = .ok (.aload_n 0, 1) := by decide +kernel
theorem dX7_reach_20 : decode cX7_reach 20 = .ok (.getfield 96, 3) := by decide +kernel
theorem dX7_reach_23 : decode cX7_reach 23 = .ok (.if_icmp .ge 31, 3) := by decide +kernel
theorem dX7_reach_26 : decode cX7_reach 26 = .ok (.iload_n 2, 1) := by decide +kernel
theorem dX7_reach_27 : decode cX7_reach 27 = .ok (.iload_n 2, 1) := by decide +kernel
theorem dX7_reach_28 : decode cX7_reach 28 = .ok (.iload 4, 2) := by decide +kernel
theorem dX7_reach_30 : decode cX7_reach 30 = .ok (.invokestatic 144, 3) := by decide +kernel
theorem dX7_reach_33 : decode cX7_reach 33 = .ok (.ifCond .eq 12, 3) := by decide +kernel
theorem dX7_reach_36 : decode cX7_reach 36 = .ok (.aload_n 0, 1) := by decide +kernel
theorem dX7_reach_37 : decode cX7_reach 37 = .ok (.iload 4, 2) := by decide +kernel
theorem dX7_reach_39 : decode cX7_reach 39 = .ok (.invokevirtual 141, 3) := by decide +kernel
theorem dX7_reach_42 : decode cX7_reach 42 = .ok (.goto 4, 3) := by decide +kernel
theorem dX7_reach_45 : decode cX7_reach 45 = .ok (.iconst 0, 1) := by decide +kernel
theorem dX7_reach_46 : decode cX7_reach 46 = .ok (.ior, 1) := by decide +kernel
theorem dX7_reach_47 : decode cX7_reach 47 = .ok (.istore_n 2, 1) := by decide +kernel
theorem dX7_reach_48 : decode cX7_reach 48 = .ok (.iinc 4 1, 3) := by decide +kernel
theorem dX7_reach_51 : decode cX7_reach 51 = .ok (.goto (-34), 3) := by decide +kernel
theorem dX7_reach_54 : decode cX7_reach 54 = .ok (.iinc 3 1, 3) := by decide +kernel
theorem dX7_reach_57 : decode cX7_reach 57 = .ok (.goto (-49), 3) := by decide +kernel
theorem dX7_reach_60 : decode cX7_reach 60 = .ok (.iload_n 2, 1) := by decide +kernel
theorem dX7_reach_61 : decode cX7_reach 61 = .ok (.ireturn, 1) := by decide +kernel
theorem dX7_could_0 : decode cX7_could 0 = .ok (.iload_n 1, 1) := by decide +kernel
theorem dX7_could_1 : decode cX7_could 1 = .ok (.tableswitch 70 0 2 #[27, 48, 59], 27) := by decide +kernel
theorem dX7_could_28 : decode cX7_could 28 = .ok (.iload_n 0, 1) := by decide +kernel
theorem dX7_could_29 : decode cX7_could 29 = .ok (.iconst 1, 1) := by decide +kernel
theorem dX7_could_30 : decode cX7_could 30 = .ok (.if_icmp .eq 13, 3) := by decide +kernel
theorem dX7_could_33 : decode cX7_could 33 = .ok (.iload_n 0, 1) := by decide +kernel
theorem dX7_could_34 : decode cX7_could 34 = .ok (.iconst 2, 1) := by decide +kernel
theorem dX7_could_35 : decode cX7_could 35 = .ok (.if_icmp .eq 8, 3) := by decide +kernel
theorem dX7_could_38 : decode cX7_could 38 = .ok (.iload_n 0, 1) := by decide +kernel
theorem dX7_could_39 : decode cX7_could 39 = .ok (.iconst 4, 1) := by decide +kernel
theorem dX7_could_40 : decode cX7_could 40 = .ok (.if_icmp .ne 7, 3) := by decide +kernel
theorem dX7_could_43 : decode cX7_could 43 = .ok (.iconst 1, 1) := by decide +kernel
theorem dX7_could_44 : decode cX7_could 44 = .ok (.goto 4, 3) := by decide +kernel
theorem dX7_could_47 : decode cX7_could 47 = .ok (.iconst 0, 1) := by decide +kernel
theorem dX7_could_48 : decode cX7_could 48 = .ok (.ireturn, 1) := by decide +kernel
theorem dX7_could_49 : decode cX7_could 49 = .ok (.iload_n 0, 1) := by decide +kernel
theorem dX7_could_50 : decode cX7_could 50 = .ok (.iconst 3, 1) := by decide +kernel
theorem dX7_could_51 : decode cX7_could 51 = .ok (.if_icmp .ge 7, 3) := by decide +kernel
theorem dX7_could_54 : decode cX7_could 54 = .ok (.iconst 1, 1) := by decide +kernel
theorem dX7_could_55 : decode cX7_could 55 = .ok (.goto 4, 3) := by decide +kernel
theorem dX7_could_58 : decode cX7_could 58 = .ok (.iconst 0, 1) := by decide +kernel
theorem dX7_could_59 : decode cX7_could 59 = .ok (.ireturn, 1) := by decide +kernel
theorem dX7_could_60 : decode cX7_could 60 = .ok (.iload_n 0, 1) := by decide +kernel
theorem dX7_could_61 : decode cX7_could 61 = .ok (.iconst 2, 1) := by decide +kernel
theorem dX7_could_62 : decode cX7_could 62 = .ok (.if_icmp .ne 7, 3) := by decide +kernel
theorem dX7_could_65 : decode cX7_could 65 = .ok (.iconst 1, 1) := by decide +kernel
theorem dX7_could_66 : decode cX7_could 66 = .ok (.goto 4, 3) := by decide +kernel
theorem dX7_could_69 : decode cX7_could 69 = .ok (.iconst 0, 1) := by decide +kernel
theorem dX7_could_70 : decode cX7_could 70 = .ok (.ireturn, 1) := by decide +kernel
theorem dX7_could_71 : decode cX7_could 71 = .ok (.iload_n 0, 1) := by decide +kernel
theorem dX7_could_72 : decode cX7_could 72 = .ok (.iconst 2, 1) := by decide +kernel
theorem dX7_could_73 : decode cX7_could 73 = .ok (.if_icmp .le 7, 3) := by decide +kernel
theorem dX7_could_76 : decode cX7_could 76 = .ok (.iconst 1, 1) := by decide +kernel
theorem dX7_could_77 : decode cX7_could 77 = .ok (.goto 4, 3) := by decide +kernel
theorem dX7_could_80 : decode cX7_could 80 = .ok (.iconst 0, 1) := by decide +kernel
theorem dX7_could_81 : decode cX7_could 81 = .ok (.ireturn, 1) := by decide +kernel
theorem dX7_sorts_0 : decode cX7_sorts 0 = .ok (.iconst 0, 1) := by decide +kernel
theorem dX7_sorts_1 : decode cX7_sorts 1 = .ok (.istore_n 2, 1) := by decide +kernel
theorem dX7_sorts_2 : decode cX7_sorts 2 = .ok (.iconst 0, 1) := by decide +kernel
theorem dX7_sorts_3 : decode cX7_sorts 3 = .ok (.istore_n 3, 1) := by decide +kernel
theorem dX7_sorts_4 : decode cX7_sorts 4 = .ok (.iload_n 3, 1) := by decide +kernel
theorem dX7_sorts_5 : decode cX7_sorts 5 = .ok (.iconst 5, 1) := by decide +kernel
theorem dX7_sorts_6 : decode cX7_sorts 6 = .ok (.if_icmp .ge 89, 3) := by decide +kernel
theorem dX7_sorts_9 : decode cX7_sorts 9 = .ok (.iconst 1, 1) := by decide +kernel
theorem dX7_sorts_10 : decode cX7_sorts 10 = .ok (.istore 4, 2) := by decide +kernel
theorem dX7_sorts_12 : decode cX7_sorts 12 = .ok (.iconst 0, 1) := by decide +kernel
theorem dX7_sorts_13 : decode cX7_sorts 13 = .ok (.istore 5, 2) := by decide +kernel
theorem dX7_sorts_15 : decode cX7_sorts 15 = .ok (.iload 5, 2) := by decide +kernel
theorem dX7_sorts_17 : decode cX7_sorts 17 = .ok (.aload_n 0, 1) := by decide +kernel
theorem dX7_sorts_18 : decode cX7_sorts 18 = .ok (.getfield 99, 3) := by decide +kernel
theorem dX7_sorts_21 : decode cX7_sorts 21 = .ok (.if_icmp .ge 53, 3) := by decide +kernel
theorem dX7_sorts_24 : decode cX7_sorts 24 = .ok (.iload 4, 2) := by decide +kernel
theorem dX7_sorts_26 : decode cX7_sorts 26 = .ok (.ifCond .eq 39, 3) := by decide +kernel
theorem dX7_sorts_29 : decode cX7_sorts 29 = .ok (.aload_n 0, 1) := by decide +kernel
theorem dX7_sorts_30 : decode cX7_sorts 30 = .ok (.getfield 22, 3) := by decide +kernel
theorem dX7_sorts_33 : decode cX7_sorts 33 = .ok (.iload 5, 2) := by decide +kernel
theorem dX7_sorts_35 : decode cX7_sorts 35 = .ok (.iaload, 1) := by decide +kernel
theorem dX7_sorts_36 : decode cX7_sorts 36 = .ok (.iload_n 1, 1) := by decide +kernel
theorem dX7_sorts_37 : decode cX7_sorts 37 = .ok (.if_icmp .ne 24, 3) := by decide +kernel
theorem dX7_sorts_40 : decode cX7_sorts 40 = .ok (.iload_n 3, 1) := by decide +kernel
theorem dX7_sorts_41 : decode cX7_sorts 41 = .ok (.aload_n 0, 1) := by decide +kernel
theorem dX7_sorts_42 : decode cX7_sorts 42 = .ok (.getfield 25, 3) := by decide +kernel
theorem dX7_sorts_45 : decode cX7_sorts 45 = .ok (.iload 5, 2) := by decide +kernel
theorem dX7_sorts_47 : decode cX7_sorts 47 = .ok (.iaload, 1) := by decide +kernel
theorem dX7_sorts_48 : decode cX7_sorts 48 = .ok (.invokestatic 147, 3) := by decide +kernel
theorem dX7_sorts_51 : decode cX7_sorts 51 = .ok (.aload_n 0, 1) := by decide +kernel
theorem dX7_sorts_52 : decode cX7_sorts 52 = .ok (.getfield 28, 3) := by decide +kernel
theorem dX7_sorts_55 : decode cX7_sorts 55 = .ok (.iload 5, 2) := by decide +kernel
theorem dX7_sorts_57 : decode cX7_sorts 57 = .ok (.baload, 1) := by decide +kernel
theorem dX7_sorts_58 : decode cX7_sorts 58 = .ok (.if_icmp .ne 7, 3) := by decide +kernel
theorem dX7_sorts_61 : decode cX7_sorts 61 = .ok (.iconst 1, 1) := by decide +kernel
theorem dX7_sorts_62 : decode cX7_sorts 62 = .ok (.goto 4, 3) := by decide +kernel
theorem dX7_sorts_65 : decode cX7_sorts 65 = .ok (.iconst 0, 1) := by decide +kernel
theorem dX7_sorts_66 : decode cX7_sorts 66 = .ok (.istore 4, 2) := by decide +kernel
theorem dX7_sorts_68 : decode cX7_sorts 68 = .ok (.iinc 5 1, 3) := by decide +kernel
theorem dX7_sorts_71 : decode cX7_sorts 71 = .ok (.goto (-56), 3) := by decide +kernel
theorem dX7_sorts_74 : decode cX7_sorts 74 = .ok (.iload_n 2, 1) := by decide +kernel
theorem dX7_sorts_75 : decode cX7_sorts 75 = .ok (.iload 4, 2) := by decide +kernel
theorem dX7_sorts_77 : decode cX7_sorts 77 = .ok (.ifCond .eq 9, 3) := by decide +kernel
theorem dX7_sorts_80 : decode cX7_sorts 80 = .ok (.iconst 1, 1) := by decide +kernel
theorem dX7_sorts_81 : decode cX7_sorts 81 = .ok (.iload_n 3, 1) := by decide +kernel
theorem dX7_sorts_82 : decode cX7_sorts 82 = .ok (.ishl, 1) := by decide +kernel
theorem dX7_sorts_83 : decode cX7_sorts 83 = .ok (.goto 4, 3) := by decide +kernel
theorem dX7_sorts_86 : decode cX7_sorts 86 = .ok (.iconst 0, 1) := by decide +kernel
theorem dX7_sorts_87 : decode cX7_sorts 87 = .ok (.ior, 1) := by decide +kernel
theorem dX7_sorts_88 : decode cX7_sorts 88 = .ok (.istore_n 2, 1) := by decide +kernel
theorem dX7_sorts_89 : decode cX7_sorts 89 = .ok (.iinc 3 1, 3) := by decide +kernel
theorem dX7_sorts_92 : decode cX7_sorts 92 = .ok (.goto (-88), 3) := by decide +kernel
theorem dX7_sorts_95 : decode cX7_sorts 95 = .ok (.iload_n 2, 1) := by decide +kernel
theorem dX7_sorts_96 : decode cX7_sorts 96 = .ok (.ireturn, 1) := by decide +kernel
theorem dX7_withIt_0 : decode cX7_withIt 0 = .ok (.iconst 0, 1) := by decide +kernel
theorem dX7_withIt_1 : decode cX7_withIt 1 = .ok (.istore_n 2, 1) := by decide +kernel
theorem dX7_withIt_2 : decode cX7_withIt 2 = .ok (.iconst 0, 1) := by decide +kernel
theorem dX7_withIt_3 : decode cX7_withIt 3 = .ok (.istore_n 3, 1) := by decide +kernel
theorem dX7_withIt_4 : decode cX7_withIt 4 = .ok (.iload_n 3, 1) := by decide +kernel
theorem dX7_withIt_5 : decode cX7_withIt 5 = .ok (.iconst 5, 1) := by decide +kernel
theorem dX7_withIt_6 : decode cX7_withIt 6 = .ok (.if_icmp .ge 33, 3) := by decide +kernel
theorem dX7_withIt_9 : decode cX7_withIt 9 = .ok (.iload_n 2, 1) := by decide +kernel
theorem dX7_withIt_10 : decode cX7_withIt 10 = .ok (.iload_n 0, 1) := by decide +kernel
theorem dX7_withIt_11 : decode cX7_withIt 11 = .ok (.iload_n 3, 1) := by decide +kernel
theorem dX7_withIt_12 : decode cX7_withIt 12 = .ok (.invokestatic 144, 3) := by decide +kernel
theorem dX7_withIt_15 : decode cX7_withIt 15 = .ok (.ifCond .eq 15, 3) := by decide +kernel
theorem dX7_withIt_18 : decode cX7_withIt 18 = .ok (.iload_n 3, 1) := by decide +kernel
theorem dX7_withIt_19 : decode cX7_withIt 19 = .ok (.iload_n 1, 1) := by decide +kernel
theorem dX7_withIt_20 : decode cX7_withIt 20 = .ok (.invokestatic 147, 3) := by decide +kernel
theorem dX7_withIt_23 : decode cX7_withIt 23 = .ok (.ifCond .eq 7, 3) := by decide +kernel
theorem dX7_withIt_26 : decode cX7_withIt 26 = .ok (.iconst 1, 1) := by decide +kernel
theorem dX7_withIt_27 : decode cX7_withIt 27 = .ok (.goto 4, 3) := by decide +kernel
theorem dX7_withIt_30 : decode cX7_withIt 30 = .ok (.iconst 0, 1) := by decide +kernel
theorem dX7_withIt_31 : decode cX7_withIt 31 = .ok (.iadd, 1) := by decide +kernel
theorem dX7_withIt_32 : decode cX7_withIt 32 = .ok (.istore_n 2, 1) := by decide +kernel
theorem dX7_withIt_33 : decode cX7_withIt 33 = .ok (.iinc 3 1, 3) := by decide +kernel
theorem dX7_withIt_36 : decode cX7_withIt 36 = .ok (.goto (-32), 3) := by decide +kernel
theorem dX7_withIt_39 : decode cX7_withIt 39 = .ok (.iload_n 2, 1) := by decide +kernel
theorem dX7_withIt_40 : decode cX7_withIt 40 = .ok (.ireturn, 1) := by decide +kernel
theorem dX7_ask_0 : decode cX7_ask 0 = .ok (.aload_n 0, 1) := by decide +kernel
theorem dX7_ask_1 : decode cX7_ask 1 = .ok (.iload_n 1, 1) := by decide +kernel
theorem dX7_ask_2 : decode cX7_ask 2 = .ok (.invokevirtual 150, 3) := by decide +kernel
theorem dX7_ask_5 : decode cX7_ask 5 = .ok (.istore_n 2, 1) := by decide +kernel
theorem dX7_ask_6 : decode cX7_ask 6 = .ok (.iconst (-1), 1) := by decide +kernel
theorem dX7_ask_7 : decode cX7_ask 7 = .ok (.istore_n 3, 1) := by decide +kernel
theorem dX7_ask_8 : decode cX7_ask 8 = .ok (.ldc 153, 2) := by decide +kernel
theorem dX7_ask_10 : decode cX7_ask 10 = .ok (.istore 4, 2) := by decide +kernel
theorem dX7_ask_12 : decode cX7_ask 12 = .ok (.iconst 0, 1) := by decide +kernel
theorem dX7_ask_13 : decode cX7_ask 13 = .ok (.istore 5, 2) := by decide +kernel
theorem dX7_ask_15 : decode cX7_ask 15 = .ok (.iload 5, 2) := by decide +kernel
theorem dX7_ask_17 : decode cX7_ask 17 = .ok (.iconst 4, 1) := by decide +kernel
theorem dX7_ask_18 : decode cX7_ask 18 = .ok (.if_icmp .ge 76, 3) := by decide +kernel
theorem dX7_ask_21 : decode cX7_ask 21 = .ok (.iload_n 2, 1) := by decide +kernel
theorem dX7_ask_22 : decode cX7_ask 22 = .ok (.ifCond .eq 72, 3) := by decide +kernel
theorem dX7_ask_25 : decode cX7_ask 25 = .ok (.iload_n 2, 1) := by decide +kernel
theorem dX7_ask_26 : decode cX7_ask 26 = .ok (.iload 5, 2) := by decide +kernel
theorem dX7_ask_28 : decode cX7_ask 28 = .ok (.invokestatic 154, 3) := by decide +kernel
theorem dX7_ask_31 : decode cX7_ask 31 = .ok (.istore 6, 2) := by decide +kernel
theorem dX7_ask_33 : decode cX7_ask 33 = .ok (.iload_n 2, 1) := by decide +kernel
theorem dX7_ask_34 : decode cX7_ask 34 = .ok (.invokestatic 157, 3) := by decide +kernel
theorem dX7_ask_37 : decode cX7_ask 37 = .ok (.iload 6, 2) := by decide +kernel
theorem dX7_ask_39 : decode cX7_ask 39 = .ok (.isub, 1) := by decide +kernel
theorem dX7_ask_40 : decode cX7_ask 40 = .ok (.istore 7, 2) := by decide +kernel
theorem dX7_ask_42 : decode cX7_ask 42 = .ok (.iload 6, 2) := by decide +kernel
theorem dX7_ask_44 : decode cX7_ask 44 = .ok (.iload 7, 2) := by decide +kernel
theorem dX7_ask_46 : decode cX7_ask 46 = .ok (.if_icmp .le 8, 3) := by decide +kernel
theorem dX7_ask_49 : decode cX7_ask 49 = .ok (.iload 6, 2) := by decide +kernel
theorem dX7_ask_51 : decode cX7_ask 51 = .ok (.goto 5, 3) := by decide +kernel
theorem dX7_ask_54 : decode cX7_ask 54 = .ok (.iload 7, 2) := by decide +kernel
theorem dX7_ask_56 : decode cX7_ask 56 = .ok (.istore 8, 2) := by decide +kernel
theorem dX7_ask_58 : decode cX7_ask 58 = .ok (.iload 8, 2) := by decide +kernel
theorem dX7_ask_60 : decode cX7_ask 60 = .ok (.iload 4, 2) := by decide +kernel
theorem dX7_ask_62 : decode cX7_ask 62 = .ok (.if_icmp .ge 8, 3) := by decide +kernel
theorem dX7_ask_65 : decode cX7_ask 65 = .ok (.iload 5, 2) := by decide +kernel
theorem dX7_ask_67 : decode cX7_ask 67 = .ok (.goto 4, 3) := by decide +kernel
theorem dX7_ask_70 : decode cX7_ask 70 = .ok (.iload_n 3, 1) := by decide +kernel
theorem dX7_ask_71 : decode cX7_ask 71 = .ok (.istore_n 3, 1) := by decide +kernel
theorem dX7_ask_72 : decode cX7_ask 72 = .ok (.iload 8, 2) := by decide +kernel
theorem dX7_ask_74 : decode cX7_ask 74 = .ok (.iload 4, 2) := by decide +kernel
theorem dX7_ask_76 : decode cX7_ask 76 = .ok (.if_icmp .ge 8, 3) := by decide +kernel
theorem dX7_ask_79 : decode cX7_ask 79 = .ok (.iload 8, 2) := by decide +kernel
theorem dX7_ask_81 : decode cX7_ask 81 = .ok (.goto 5, 3) := by decide +kernel
theorem dX7_ask_84 : decode cX7_ask 84 = .ok (.iload 4, 2) := by decide +kernel
theorem dX7_ask_86 : decode cX7_ask 86 = .ok (.istore 4, 2) := by decide +kernel
theorem dX7_ask_88 : decode cX7_ask 88 = .ok (.iinc 5 1, 3) := by decide +kernel
theorem dX7_ask_91 : decode cX7_ask 91 = .ok (.goto (-76), 3) := by decide +kernel
theorem dX7_ask_94 : decode cX7_ask 94 = .ok (.iload_n 3, 1) := by decide +kernel
theorem dX7_ask_95 : decode cX7_ask 95 = .ok (.ireturn, 1) := by decide +kernel
theorem dX7_isState_0 : decode cX7_isState 0 = .ok (.iload_n 1, 1) := by decide +kernel
theorem dX7_isState_1 : decode cX7_isState 1 = .ok (.iconst 0, 1) := by decide +kernel
theorem dX7_isState_2 : decode cX7_isState 2 = .ok (.aload_n 0, 1) := by decide +kernel
theorem dX7_isState_3 : decode cX7_isState 3 = .ok (.getfield 96, 3) := by decide +kernel
theorem dX7_isState_6 : decode cX7_isState 6 = .ok (.iconst 1, 1) := by decide +kernel
theorem dX7_isState_7 : decode cX7_isState 7 = .ok (.isub, 1) := by decide +kernel
theorem dX7_isState_8 : decode cX7_isState 8 = .ok (.invokestatic 69, 3) := by decide +kernel
theorem dX7_isState_11 : decode cX7_isState 11 = .ok (.ireturn, 1) := by decide +kernel
theorem dX7_stateNow_0 : decode cX7_stateNow 0 = .ok (.iload_n 2, 1) := by decide +kernel
theorem dX7_stateNow_1 : decode cX7_stateNow 1 = .ok (.tableswitch 106 0 6 #[43, 50, 59, 70, 76, 94, 100], 43) := by decide +kernel
theorem dX7_stateNow_44 : decode cX7_stateNow 44 = .ok (.aload_n 0, 1) := by decide +kernel
theorem dX7_stateNow_45 : decode cX7_stateNow 45 = .ok (.getfield 7, 3) := by decide +kernel
theorem dX7_stateNow_48 : decode cX7_stateNow 48 = .ok (.iload_n 1, 1) := by decide +kernel
theorem dX7_stateNow_49 : decode cX7_stateNow 49 = .ok (.iaload, 1) := by decide +kernel
theorem dX7_stateNow_50 : decode cX7_stateNow 50 = .ok (.ireturn, 1) := by decide +kernel
theorem dX7_stateNow_51 : decode cX7_stateNow 51 = .ok (.aload_n 0, 1) := by decide +kernel
theorem dX7_stateNow_52 : decode cX7_stateNow 52 = .ok (.getfield 13, 3) := by decide +kernel
theorem dX7_stateNow_55 : decode cX7_stateNow 55 = .ok (.iconst 2, 1) := by decide +kernel
theorem dX7_stateNow_56 : decode cX7_stateNow 56 = .ok (.iload_n 1, 1) := by decide +kernel
theorem dX7_stateNow_57 : decode cX7_stateNow 57 = .ok (.imul, 1) := by decide +kernel
theorem dX7_stateNow_58 : decode cX7_stateNow 58 = .ok (.iaload, 1) := by decide +kernel
theorem dX7_stateNow_59 : decode cX7_stateNow 59 = .ok (.ireturn, 1) := by decide +kernel
theorem dX7_stateNow_60 : decode cX7_stateNow 60 = .ok (.aload_n 0, 1) := by decide +kernel
theorem dX7_stateNow_61 : decode cX7_stateNow 61 = .ok (.getfield 13, 3) := by decide +kernel
theorem dX7_stateNow_64 : decode cX7_stateNow 64 = .ok (.iconst 2, 1) := by decide +kernel
theorem dX7_stateNow_65 : decode cX7_stateNow 65 = .ok (.iload_n 1, 1) := by decide +kernel
theorem dX7_stateNow_66 : decode cX7_stateNow 66 = .ok (.imul, 1) := by decide +kernel
theorem dX7_stateNow_67 : decode cX7_stateNow 67 = .ok (.iconst 1, 1) := by decide +kernel
theorem dX7_stateNow_68 : decode cX7_stateNow 68 = .ok (.iadd, 1) := by decide +kernel
theorem dX7_stateNow_69 : decode cX7_stateNow 69 = .ok (.iaload, 1) := by decide +kernel
theorem dX7_stateNow_70 : decode cX7_stateNow 70 = .ok (.ireturn, 1) := by decide +kernel
theorem dX7_stateNow_71 : decode cX7_stateNow 71 = .ok (.aload_n 0, 1) := by decide +kernel
theorem dX7_stateNow_72 : decode cX7_stateNow 72 = .ok (.iload_n 1, 1) := by decide +kernel
theorem dX7_stateNow_73 : decode cX7_stateNow 73 = .ok (.invokevirtual 160, 3) := by decide +kernel
theorem dX7_stateNow_76 : decode cX7_stateNow 76 = .ok (.ireturn, 1) := by decide +kernel
theorem dX7_stateNow_77 : decode cX7_stateNow 77 = .ok (.aload_n 0, 1) := by decide +kernel
theorem dX7_stateNow_78 : decode cX7_stateNow 78 = .ok (.iload_n 1, 1) := by decide +kernel
theorem dX7_stateNow_79 : decode cX7_stateNow 79 = .ok (.invokevirtual 160, 3) := by decide +kernel
theorem dX7_stateNow_82 : decode cX7_stateNow 82 = .ok (.iload_n 1, 1) := by decide +kernel
theorem dX7_stateNow_83 : decode cX7_stateNow 83 = .ok (.invokestatic 144, 3) := by decide +kernel
theorem dX7_stateNow_86 : decode cX7_stateNow 86 = .ok (.ifCond .eq 7, 3) := by decide +kernel
theorem dX7_stateNow_89 : decode cX7_stateNow 89 = .ok (.iconst 1, 1) := by decide +kernel
theorem dX7_stateNow_90 : decode cX7_stateNow 90 = .ok (.goto 4, 3) := by decide +kernel
theorem dX7_stateNow_93 : decode cX7_stateNow 93 = .ok (.iconst 0, 1) := by decide +kernel
theorem dX7_stateNow_94 : decode cX7_stateNow 94 = .ok (.ireturn, 1) := by decide +kernel
theorem dX7_stateNow_95 : decode cX7_stateNow 95 = .ok (.aload_n 0, 1) := by decide +kernel
theorem dX7_stateNow_96 : decode cX7_stateNow 96 = .ok (.iload_n 1, 1) := by decide +kernel
theorem dX7_stateNow_97 : decode cX7_stateNow 97 = .ok (.invokevirtual 163, 3) := by decide +kernel
theorem dX7_stateNow_100 : decode cX7_stateNow 100 = .ok (.ireturn, 1) := by decide +kernel
theorem dX7_stateNow_101 : decode cX7_stateNow 101 = .ok (.aload_n 0, 1) := by decide +kernel
theorem dX7_stateNow_102 : decode cX7_stateNow 102 = .ok (.iload_n 1, 1) := by decide +kernel
theorem dX7_stateNow_103 : decode cX7_stateNow 103 = .ok (.invokevirtual 150, 3) := by decide +kernel
theorem dX7_stateNow_106 : decode cX7_stateNow 106 = .ok (.ireturn, 1) := by decide +kernel
theorem dX7_stateNow_107 : decode cX7_stateNow 107 = .ok (.aload_n 0, 1) := by decide +kernel
theorem dX7_stateNow_108 : decode cX7_stateNow 108 = .ok (.iload_n 1, 1) := by decide +kernel
theorem dX7_stateNow_109 : decode cX7_stateNow 109 = .ok (.invokevirtual 166, 3) := by decide +kernel
theorem dX7_stateNow_112 : decode cX7_stateNow 112 = .ok (.ireturn, 1) := by decide +kernel
theorem dX7_state_0 : decode cX7_state 0 = .ok (.aload_n 0, 1) := by decide +kernel
theorem dX7_state_1 : decode cX7_state 1 = .ok (.iload_n 1, 1) := by decide +kernel
theorem dX7_state_2 : decode cX7_state 2 = .ok (.invokevirtual 169, 3) := by decide +kernel
theorem dX7_state_5 : decode cX7_state 5 = .ok (.ifCond .ne 8, 3) := by decide +kernel
theorem dX7_state_8 : decode cX7_state 8 = .ok (.bipush (-101), 2) := by decide +kernel
theorem dX7_state_10 : decode cX7_state 10 = .ok (.goto 24, 3) := by decide +kernel
theorem dX7_state_13 : decode cX7_state 13 = .ok (.iload_n 2, 1) := by decide +kernel
theorem dX7_state_14 : decode cX7_state 14 = .ok (.iconst 0, 1) := by decide +kernel
theorem dX7_state_15 : decode cX7_state 15 = .ok (.bipush 7, 2) := by decide +kernel
theorem dX7_state_17 : decode cX7_state 17 = .ok (.invokestatic 69, 3) := by decide +kernel
theorem dX7_state_20 : decode cX7_state 20 = .ok (.ifCond .eq 12, 3) := by decide +kernel
theorem dX7_state_23 : decode cX7_state 23 = .ok (.aload_n 0, 1) := by decide +kernel
theorem dX7_state_24 : decode cX7_state 24 = .ok (.iload_n 1, 1) := by decide +kernel
theorem dX7_state_25 : decode cX7_state 25 = .ok (.iload_n 2, 1) := by decide +kernel
theorem dX7_state_26 : decode cX7_state 26 = .ok (.invokevirtual 172, 3) := by decide +kernel
theorem dX7_state_29 : decode cX7_state 29 = .ok (.goto 5, 3) := by decide +kernel
theorem dX7_state_32 : decode cX7_state 32 = .ok (.bipush (-102), 2) := by decide +kernel
theorem dX7_state_34 : decode cX7_state 34 = .ok (.ireturn, 1) := by decide +kernel
theorem dX7_isSuch_0 : decode cX7_isSuch 0 = .ok (.iload_n 1, 1) := by decide +kernel
theorem dX7_isSuch_1 : decode cX7_isSuch 1 = .ok (.ifCond .eq 18, 3) := by decide +kernel
theorem dX7_isSuch_4 : decode cX7_isSuch 4 = .ok (.iload_n 1, 1) := by decide +kernel
theorem dX7_isSuch_5 : decode cX7_isSuch 5 = .ok (.iload_n 0, 1) := by decide +kernel
theorem dX7_isSuch_6 : decode cX7_isSuch 6 = .ok (.if_icmp .eq 13, 3) := by decide +kernel
theorem dX7_isSuch_9 : decode cX7_isSuch 9 = .ok (.iload_n 1, 1) := by decide +kernel
theorem dX7_isSuch_10 : decode cX7_isSuch 10 = .ok (.iconst 1, 1) := by decide +kernel
theorem dX7_isSuch_11 : decode cX7_isSuch 11 = .ok (.if_icmp .ne 12, 3) := by decide +kernel
theorem dX7_isSuch_14 : decode cX7_isSuch 14 = .ok (.iload_n 0, 1) := by decide +kernel
theorem dX7_isSuch_15 : decode cX7_isSuch 15 = .ok (.iconst 2, 1) := by decide +kernel
theorem dX7_isSuch_16 : decode cX7_isSuch 16 = .ok (.if_icmp .ne 7, 3) := by decide +kernel
theorem dX7_isSuch_19 : decode cX7_isSuch 19 = .ok (.iconst 1, 1) := by decide +kernel
theorem dX7_isSuch_20 : decode cX7_isSuch 20 = .ok (.goto 4, 3) := by decide +kernel
theorem dX7_isSuch_23 : decode cX7_isSuch 23 = .ok (.iconst 0, 1) := by decide +kernel
theorem dX7_isSuch_24 : decode cX7_isSuch 24 = .ok (.ireturn, 1) := by decide +kernel
theorem dX7_as_0 : decode cX7_as 0 = .ok (.aload_n 0, 1) := by decide +kernel
theorem dX7_as_1 : decode cX7_as 1 = .ok (.iload_n 1, 1) := by decide +kernel
theorem dX7_as_2 : decode cX7_as 2 = .ok (.invokevirtual 169, 3) := by decide +kernel
theorem dX7_as_5 : decode cX7_as 5 = .ok (.ifCond .ne 6, 3) := by decide +kernel
theorem dX7_as_8 : decode cX7_as 8 = .ok (.bipush (-101), 2) := by decide +kernel
theorem dX7_as_10 : decode cX7_as 10 = .ok (.ireturn, 1) := by decide +kernel
theorem dX7_as_11 : decode cX7_as 11 = .ok (.iload_n 2, 1) := by decide +kernel
theorem dX7_as_12 : decode cX7_as 12 = .ok (.iconst 0, 1) := by decide +kernel
theorem dX7_as_13 : decode cX7_as 13 = .ok (.iconst 4, 1) := by decide +kernel
theorem dX7_as_14 : decode cX7_as 14 = .ok (.invokestatic 69, 3) := by decide +kernel
theorem dX7_as_17 : decode cX7_as 17 = .ok (.ifCond .ne 8, 3) := by decide +kernel
theorem dX7_as_20 : decode cX7_as 20 = .ok (.bipush (-102), 2) := by decide +kernel
theorem dX7_as_22 : decode cX7_as 22 = .ok (.goto 21, 3) := by decide +kernel
theorem dX7_as_25 : decode cX7_as 25 = .ok (.aload_n 0, 1) := by decide +kernel
theorem dX7_as_26 : decode cX7_as 26 = .ok (.getfield 7, 3) := by decide +kernel
theorem dX7_as_29 : decode cX7_as 29 = .ok (.iload_n 1, 1) := by decide +kernel
theorem dX7_as_30 : decode cX7_as 30 = .ok (.iaload, 1) := by decide +kernel
theorem dX7_as_31 : decode cX7_as 31 = .ok (.iload_n 2, 1) := by decide +kernel
theorem dX7_as_32 : decode cX7_as 32 = .ok (.invokestatic 175, 3) := by decide +kernel
theorem dX7_as_35 : decode cX7_as 35 = .ok (.ifCond .eq 7, 3) := by decide +kernel
theorem dX7_as_38 : decode cX7_as 38 = .ok (.iload_n 1, 1) := by decide +kernel
theorem dX7_as_39 : decode cX7_as 39 = .ok (.goto 4, 3) := by decide +kernel
theorem dX7_as_42 : decode cX7_as 42 = .ok (.iconst (-1), 1) := by decide +kernel
theorem dX7_as_43 : decode cX7_as 43 = .ok (.ireturn, 1) := by decide +kernel
theorem dX7_sign_0 : decode cX7_sign 0 = .ok (.iload_n 1, 1) := by decide +kernel
theorem dX7_sign_1 : decode cX7_sign 1 = .ok (.iconst 0, 1) := by decide +kernel
theorem dX7_sign_2 : decode cX7_sign 2 = .ok (.iconst 2, 1) := by decide +kernel
theorem dX7_sign_3 : decode cX7_sign 3 = .ok (.invokestatic 69, 3) := by decide +kernel
theorem dX7_sign_6 : decode cX7_sign 6 = .ok (.ifCond .eq 19, 3) := by decide +kernel
theorem dX7_sign_9 : decode cX7_sign 9 = .ok (.iload_n 2, 1) := by decide +kernel
theorem dX7_sign_10 : decode cX7_sign 10 = .ok (.iconst 0, 1) := by decide +kernel
theorem dX7_sign_11 : decode cX7_sign 11 = .ok (.aload_n 0, 1) := by decide +kernel
theorem dX7_sign_12 : decode cX7_sign 12 = .ok (.getfield 16, 3) := by decide +kernel
theorem dX7_sign_15 : decode cX7_sign 15 = .ok (.iload_n 1, 1) := by decide +kernel
theorem dX7_sign_16 : decode cX7_sign 16 = .ok (.iaload, 1) := by decide +kernel
theorem dX7_sign_17 : decode cX7_sign 17 = .ok (.iconst 1, 1) := by decide +kernel
theorem dX7_sign_18 : decode cX7_sign 18 = .ok (.isub, 1) := by decide +kernel
theorem dX7_sign_19 : decode cX7_sign 19 = .ok (.invokestatic 69, 3) := by decide +kernel
theorem dX7_sign_22 : decode cX7_sign 22 = .ok (.ifCond .ne 6, 3) := by decide +kernel
theorem dX7_sign_25 : decode cX7_sign 25 = .ok (.bipush (-101), 2) := by decide +kernel
theorem dX7_sign_27 : decode cX7_sign 27 = .ok (.ireturn, 1) := by decide +kernel
theorem dX7_sign_28 : decode cX7_sign 28 = .ok (.aload_n 0, 1) := by decide +kernel
theorem dX7_sign_29 : decode cX7_sign 29 = .ok (.getfield 19, 3) := by decide +kernel
theorem dX7_sign_32 : decode cX7_sign 32 = .ok (.bipush 16, 2) := by decide +kernel
theorem dX7_sign_34 : decode cX7_sign 34 = .ok (.iload_n 1, 1) := by decide +kernel
theorem dX7_sign_35 : decode cX7_sign 35 = .ok (.imul, 1) := by decide +kernel
theorem dX7_sign_36 : decode cX7_sign 36 = .ok (.iload_n 2, 1) := by decide +kernel
theorem dX7_sign_37 : decode cX7_sign 37 = .ok (.iadd, 1) := by decide +kernel
theorem dX7_sign_38 : decode cX7_sign 38 = .ok (.iaload, 1) := by decide +kernel
theorem dX7_sign_39 : decode cX7_sign 39 = .ok (.invokestatic 178, 3) := by decide +kernel
theorem dX7_sign_42 : decode cX7_sign 42 = .ok (.ireturn, 1) := by decide +kernel
theorem dX7_codeOf_0 : decode cX7_codeOf 0 = .ok (.iload_n 0, 1) := by decide +kernel
theorem dX7_codeOf_1 : decode cX7_codeOf 1 = .ok (.iconst 2, 1) := by decide +kernel
theorem dX7_codeOf_2 : decode cX7_codeOf 2 = .ok (.irem, 1) := by decide +kernel
theorem dX7_codeOf_3 : decode cX7_codeOf 3 = .ok (.ifCond .ne 12, 3) := by decide +kernel
theorem dX7_codeOf_6 : decode cX7_codeOf 6 = .ok (.bipush 97, 2) := by decide +kernel
theorem dX7_codeOf_8 : decode cX7_codeOf 8 = .ok (.iload_n 0, 1) := by decide +kernel
theorem dX7_codeOf_9 : decode cX7_codeOf 9 = .ok (.iconst 2, 1) := by decide +kernel
theorem dX7_codeOf_10 : decode cX7_codeOf 10 = .ok (.idiv, 1) := by decide +kernel
theorem dX7_codeOf_11 : decode cX7_codeOf 11 = .ok (.iadd, 1) := by decide +kernel
theorem dX7_codeOf_12 : decode cX7_codeOf 12 = .ok (.goto 9, 3) := by decide +kernel
theorem dX7_codeOf_15 : decode cX7_codeOf 15 = .ok (.bipush 65, 2) := by decide +kernel
theorem dX7_codeOf_17 : decode cX7_codeOf 17 = .ok (.iload_n 0, 1) := by decide +kernel
theorem dX7_codeOf_18 : decode cX7_codeOf 18 = .ok (.iconst 2, 1) := by decide +kernel
theorem dX7_codeOf_19 : decode cX7_codeOf 19 = .ok (.idiv, 1) := by decide +kernel
theorem dX7_codeOf_20 : decode cX7_codeOf 20 = .ok (.iadd, 1) := by decide +kernel
theorem dX7_codeOf_21 : decode cX7_codeOf 21 = .ok (.ireturn, 1) := by decide +kernel
theorem dX7_isRow_0 : decode cX7_isRow 0 = .ok (.iload_n 1, 1) := by decide +kernel
theorem dX7_isRow_1 : decode cX7_isRow 1 = .ok (.iconst 0, 1) := by decide +kernel
theorem dX7_isRow_2 : decode cX7_isRow 2 = .ok (.iload_n 2, 1) := by decide +kernel
theorem dX7_isRow_3 : decode cX7_isRow 3 = .ok (.invokestatic 69, 3) := by decide +kernel
theorem dX7_isRow_6 : decode cX7_isRow 6 = .ok (.ifCond .eq 20, 3) := by decide +kernel
theorem dX7_isRow_9 : decode cX7_isRow 9 = .ok (.iload_n 0, 1) := by decide +kernel
theorem dX7_isRow_10 : decode cX7_isRow 10 = .ok (.iconst 0, 1) := by decide +kernel
theorem dX7_isRow_11 : decode cX7_isRow 11 = .ok (.iconst 1, 1) := by decide +kernel
theorem dX7_isRow_12 : decode cX7_isRow 12 = .ok (.iload_n 1, 1) := by decide +kernel
theorem dX7_isRow_13 : decode cX7_isRow 13 = .ok (.ishl, 1) := by decide +kernel
theorem dX7_isRow_14 : decode cX7_isRow 14 = .ok (.iconst 1, 1) := by decide +kernel
theorem dX7_isRow_15 : decode cX7_isRow 15 = .ok (.isub, 1) := by decide +kernel
theorem dX7_isRow_16 : decode cX7_isRow 16 = .ok (.invokestatic 69, 3) := by decide +kernel
theorem dX7_isRow_19 : decode cX7_isRow 19 = .ok (.ifCond .eq 7, 3) := by decide +kernel
theorem dX7_isRow_22 : decode cX7_isRow 22 = .ok (.iconst 1, 1) := by decide +kernel
theorem dX7_isRow_23 : decode cX7_isRow 23 = .ok (.goto 4, 3) := by decide +kernel
theorem dX7_isRow_26 : decode cX7_isRow 26 = .ok (.iconst 0, 1) := by decide +kernel
theorem dX7_isRow_27 : decode cX7_isRow 27 = .ok (.ireturn, 1) := by decide +kernel
theorem dX7_act_0 : decode cX7_act 0 = .ok (.aload_n 0, 1) := by decide +kernel
theorem dX7_act_1 : decode cX7_act 1 = .ok (.iload_n 1, 1) := by decide +kernel
theorem dX7_act_2 : decode cX7_act 2 = .ok (.invokevirtual 112, 3) := by decide +kernel
theorem dX7_act_5 : decode cX7_act 5 = .ok (.ifCond .ne 6, 3) := by decide +kernel
theorem dX7_act_8 : decode cX7_act 8 = .ok (.bipush (-101), 2) := by decide +kernel
theorem dX7_act_10 : decode cX7_act 10 = .ok (.ireturn, 1) := by decide +kernel
theorem dX7_act_11 : decode cX7_act 11 = .ok (.iload_n 2, 1) := by decide +kernel
theorem dX7_act_12 : decode cX7_act 12 = .ok (.iload_n 3, 1) := by decide +kernel
theorem dX7_act_13 : decode cX7_act 13 = .ok (.bipush 12, 2) := by decide +kernel
theorem dX7_act_15 : decode cX7_act 15 = .ok (.invokestatic 181, 3) := by decide +kernel
theorem dX7_act_18 : decode cX7_act 18 = .ok (.ifCond .eq 13, 3) := by decide +kernel
theorem dX7_act_21 : decode cX7_act 21 = .ok (.aload_n 0, 1) := by decide +kernel
theorem dX7_act_22 : decode cX7_act 22 = .ok (.iload_n 1, 1) := by decide +kernel
theorem dX7_act_23 : decode cX7_act 23 = .ok (.iload_n 2, 1) := by decide +kernel
theorem dX7_act_24 : decode cX7_act 24 = .ok (.iload_n 3, 1) := by decide +kernel
theorem dX7_act_25 : decode cX7_act 25 = .ok (.invokevirtual 184, 3) := by decide +kernel
theorem dX7_act_28 : decode cX7_act 28 = .ok (.goto 5, 3) := by decide +kernel
theorem dX7_act_31 : decode cX7_act 31 = .ok (.bipush (-102), 2) := by decide +kernel
theorem dX7_act_33 : decode cX7_act 33 = .ok (.ireturn, 1) := by decide +kernel
theorem dX7_flipsOf_0 : decode cX7_flipsOf 0 = .ok (.iconst 0, 1) := by decide +kernel
theorem dX7_flipsOf_1 : decode cX7_flipsOf 1 = .ok (.istore_n 3, 1) := by decide +kernel
theorem dX7_flipsOf_2 : decode cX7_flipsOf 2 = .ok (.iconst 0, 1) := by decide +kernel
theorem dX7_flipsOf_3 : decode cX7_flipsOf 3 = .ok (.istore 4, 2) := by decide +kernel
theorem dX7_flipsOf_5 : decode cX7_flipsOf 5 = .ok (.iload 4, 2) := by decide +kernel
theorem dX7_flipsOf_7 : decode cX7_flipsOf 7 = .ok (.iconst 1, 1) := by decide +kernel
theorem dX7_flipsOf_8 : decode cX7_flipsOf 8 = .ok (.iload_n 2, 1) := by decide +kernel
theorem dX7_flipsOf_9 : decode cX7_flipsOf 9 = .ok (.ishl, 1) := by decide +kernel
theorem dX7_flipsOf_10 : decode cX7_flipsOf 10 = .ok (.if_icmp .ge 29, 3) := by decide +kernel
theorem dX7_flipsOf_13 : decode cX7_flipsOf 13 = .ok (.iload_n 3, 1) := by decide +kernel
theorem dX7_flipsOf_14 : decode cX7_flipsOf 14 = .ok (.aload_n 0, 1) := by decide +kernel
theorem dX7_flipsOf_15 : decode cX7_flipsOf 15 = .ok (.iload_n 1, 1) := by decide +kernel
theorem dX7_flipsOf_16 : decode cX7_flipsOf 16 = .ok (.iconst 2, 1) := by decide +kernel
theorem dX7_flipsOf_17 : decode cX7_flipsOf 17 = .ok (.iload 4, 2) := by decide +kernel
theorem dX7_flipsOf_19 : decode cX7_flipsOf 19 = .ok (.imul, 1) := by decide +kernel
theorem dX7_flipsOf_20 : decode cX7_flipsOf 20 = .ok (.iload_n 2, 1) := by decide +kernel
theorem dX7_flipsOf_21 : decode cX7_flipsOf 21 = .ok (.iconst 1, 1) := by decide +kernel
theorem dX7_flipsOf_22 : decode cX7_flipsOf 22 = .ok (.iadd, 1) := by decide +kernel
theorem dX7_flipsOf_23 : decode cX7_flipsOf 23 = .ok (.invokevirtual 184, 3) := by decide +kernel
theorem dX7_flipsOf_26 : decode cX7_flipsOf 26 = .ok (.iconst 1, 1) := by decide +kernel
theorem dX7_flipsOf_27 : decode cX7_flipsOf 27 = .ok (.iand, 1) := by decide +kernel
theorem dX7_flipsOf_28 : decode cX7_flipsOf 28 = .ok (.iload 4, 2) := by decide +kernel
theorem dX7_flipsOf_30 : decode cX7_flipsOf 30 = .ok (.ishl, 1) := by decide +kernel
theorem dX7_flipsOf_31 : decode cX7_flipsOf 31 = .ok (.ior, 1) := by decide +kernel
theorem dX7_flipsOf_32 : decode cX7_flipsOf 32 = .ok (.istore_n 3, 1) := by decide +kernel
theorem dX7_flipsOf_33 : decode cX7_flipsOf 33 = .ok (.iinc 4 1, 3) := by decide +kernel
theorem dX7_flipsOf_36 : decode cX7_flipsOf 36 = .ok (.goto (-31), 3) := by decide +kernel
theorem dX7_flipsOf_39 : decode cX7_flipsOf 39 = .ok (.iload_n 3, 1) := by decide +kernel
theorem dX7_flipsOf_40 : decode cX7_flipsOf 40 = .ok (.ireturn, 1) := by decide +kernel
theorem dX7_flips_0 : decode cX7_flips 0 = .ok (.aload_n 0, 1) := by decide +kernel
theorem dX7_flips_1 : decode cX7_flips 1 = .ok (.iload_n 1, 1) := by decide +kernel
theorem dX7_flips_2 : decode cX7_flips 2 = .ok (.invokevirtual 112, 3) := by decide +kernel
theorem dX7_flips_5 : decode cX7_flips 5 = .ok (.ifCond .ne 6, 3) := by decide +kernel
theorem dX7_flips_8 : decode cX7_flips 8 = .ok (.bipush (-101), 2) := by decide +kernel
theorem dX7_flips_10 : decode cX7_flips 10 = .ok (.ireturn, 1) := by decide +kernel
theorem dX7_flips_11 : decode cX7_flips 11 = .ok (.iload_n 2, 1) := by decide +kernel
theorem dX7_flips_12 : decode cX7_flips 12 = .ok (.iconst 0, 1) := by decide +kernel
theorem dX7_flips_13 : decode cX7_flips 13 = .ok (.iconst 4, 1) := by decide +kernel
theorem dX7_flips_14 : decode cX7_flips 14 = .ok (.invokestatic 69, 3) := by decide +kernel
theorem dX7_flips_17 : decode cX7_flips 17 = .ok (.ifCond .eq 12, 3) := by decide +kernel
theorem dX7_flips_20 : decode cX7_flips 20 = .ok (.aload_n 0, 1) := by decide +kernel
theorem dX7_flips_21 : decode cX7_flips 21 = .ok (.iload_n 1, 1) := by decide +kernel
theorem dX7_flips_22 : decode cX7_flips 22 = .ok (.iload_n 2, 1) := by decide +kernel
theorem dX7_flips_23 : decode cX7_flips 23 = .ok (.invokevirtual 187, 3) := by decide +kernel
theorem dX7_flips_26 : decode cX7_flips 26 = .ok (.goto 5, 3) := by decide +kernel
theorem dX7_flips_29 : decode cX7_flips 29 = .ok (.bipush (-102), 2) := by decide +kernel
theorem dX7_flips_31 : decode cX7_flips 31 = .ok (.ireturn, 1) := by decide +kernel
theorem dX7_roundOf_0 : decode cX7_roundOf 0 = .ok (.aload_n 0, 1) := by decide +kernel
theorem dX7_roundOf_1 : decode cX7_roundOf 1 = .ok (.iload_n 1, 1) := by decide +kernel
theorem dX7_roundOf_2 : decode cX7_roundOf 2 = .ok (.iload_n 2, 1) := by decide +kernel
theorem dX7_roundOf_3 : decode cX7_roundOf 3 = .ok (.iload_n 3, 1) := by decide +kernel
theorem dX7_roundOf_4 : decode cX7_roundOf 4 = .ok (.invokevirtual 184, 3) := by decide +kernel
theorem dX7_roundOf_7 : decode cX7_roundOf 7 = .ok (.istore 4, 2) := by decide +kernel
theorem dX7_roundOf_9 : decode cX7_roundOf 9 = .ok (.iconst 1, 1) := by decide +kernel
theorem dX7_roundOf_10 : decode cX7_roundOf 10 = .ok (.istore 5, 2) := by decide +kernel
theorem dX7_roundOf_12 : decode cX7_roundOf 12 = .ok (.iload 4, 2) := by decide +kernel
theorem dX7_roundOf_14 : decode cX7_roundOf 14 = .ok (.iload_n 2, 1) := by decide +kernel
theorem dX7_roundOf_15 : decode cX7_roundOf 15 = .ok (.if_icmp .eq 27, 3) := by decide +kernel
theorem dX7_roundOf_18 : decode cX7_roundOf 18 = .ok (.iload 5, 2) := by decide +kernel
theorem dX7_roundOf_20 : decode cX7_roundOf 20 = .ok (.sipush 256, 3) := by decide +kernel
theorem dX7_roundOf_23 : decode cX7_roundOf 23 = .ok (.if_icmp .ge 19, 3) := by decide +kernel
theorem dX7_roundOf_26 : decode cX7_roundOf 26 = .ok (.aload_n 0, 1) := by decide +kernel
theorem dX7_roundOf_27 : decode cX7_roundOf 27 = .ok (.iload_n 1, 1) := by decide +kernel
theorem dX7_roundOf_28 : decode cX7_roundOf 28 = .ok (.iload 4, 2) := by decide +kernel
theorem dX7_roundOf_30 : decode cX7_roundOf 30 = .ok (.iload_n 3, 1) := by decide +kernel
theorem dX7_roundOf_31 : decode cX7_roundOf 31 = .ok (.invokevirtual 184, 3) := by decide +kernel
theorem dX7_roundOf_34 : decode cX7_roundOf 34 = .ok (.istore 4, 2) := by decide +kernel
theorem dX7_roundOf_36 : decode cX7_roundOf 36 = .ok (.iinc 5 1, 3) := by decide +kernel
theorem dX7_roundOf_39 : decode cX7_roundOf 39 = .ok (.goto (-27), 3) := by decide +kernel
theorem dX7_roundOf_42 : decode cX7_roundOf 42 = .ok (.iload 5, 2) := by decide +kernel
theorem dX7_roundOf_44 : decode cX7_roundOf 44 = .ok (.ireturn, 1) := by decide +kernel
theorem dX7_round_0 : decode cX7_round 0 = .ok (.aload_n 0, 1) := by decide +kernel
theorem dX7_round_1 : decode cX7_round 1 = .ok (.iload_n 1, 1) := by decide +kernel
theorem dX7_round_2 : decode cX7_round 2 = .ok (.invokevirtual 112, 3) := by decide +kernel
theorem dX7_round_5 : decode cX7_round 5 = .ok (.ifCond .ne 6, 3) := by decide +kernel
theorem dX7_round_8 : decode cX7_round 8 = .ok (.bipush (-101), 2) := by decide +kernel
theorem dX7_round_10 : decode cX7_round 10 = .ok (.ireturn, 1) := by decide +kernel
theorem dX7_round_11 : decode cX7_round 11 = .ok (.iload_n 2, 1) := by decide +kernel
theorem dX7_round_12 : decode cX7_round 12 = .ok (.iload_n 3, 1) := by decide +kernel
theorem dX7_round_13 : decode cX7_round 13 = .ok (.bipush 8, 2) := by decide +kernel
theorem dX7_round_15 : decode cX7_round 15 = .ok (.invokestatic 181, 3) := by decide +kernel
theorem dX7_round_18 : decode cX7_round 18 = .ok (.ifCond .eq 13, 3) := by decide +kernel
theorem dX7_round_21 : decode cX7_round 21 = .ok (.aload_n 0, 1) := by decide +kernel
theorem dX7_round_22 : decode cX7_round 22 = .ok (.iload_n 1, 1) := by decide +kernel
theorem dX7_round_23 : decode cX7_round 23 = .ok (.iload_n 2, 1) := by decide +kernel
theorem dX7_round_24 : decode cX7_round 24 = .ok (.iload_n 3, 1) := by decide +kernel
theorem dX7_round_25 : decode cX7_round 25 = .ok (.invokevirtual 190, 3) := by decide +kernel
theorem dX7_round_28 : decode cX7_round 28 = .ok (.goto 5, 3) := by decide +kernel
theorem dX7_round_31 : decode cX7_round 31 = .ok (.bipush (-102), 2) := by decide +kernel
theorem dX7_round_33 : decode cX7_round 33 = .ok (.ireturn, 1) := by decide +kernel
theorem dX7_isListed_0 : decode cX7_isListed 0 = .ok (.aload_n 0, 1) := by decide +kernel
theorem dX7_isListed_1 : decode cX7_isListed 1 = .ok (.getfield 38, 3) := by decide +kernel
theorem dX7_isListed_4 : decode cX7_isListed 4 = .ok (.iload_n 1, 1) := by decide +kernel
theorem dX7_isListed_5 : decode cX7_isListed 5 = .ok (.iaload, 1) := by decide +kernel
theorem dX7_isListed_6 : decode cX7_isListed 6 = .ok (.aload_n 0, 1) := by decide +kernel
theorem dX7_isListed_7 : decode cX7_isListed 7 = .ok (.getfield 105, 3) := by decide +kernel
theorem dX7_isListed_10 : decode cX7_isListed 10 = .ok (.if_icmp .ne 7, 3) := by decide +kernel
theorem dX7_isListed_13 : decode cX7_isListed 13 = .ok (.iconst 1, 1) := by decide +kernel
theorem dX7_isListed_14 : decode cX7_isListed 14 = .ok (.goto 4, 3) := by decide +kernel
theorem dX7_isListed_17 : decode cX7_isListed 17 = .ok (.iconst 0, 1) := by decide +kernel
theorem dX7_isListed_18 : decode cX7_isListed 18 = .ok (.istore_n 2, 1) := by decide +kernel
theorem dX7_isListed_19 : decode cX7_isListed 19 = .ok (.iconst 0, 1) := by decide +kernel
theorem dX7_isListed_20 : decode cX7_isListed 20 = .ok (.istore_n 3, 1) := by decide +kernel
theorem dX7_isListed_21 : decode cX7_isListed 21 = .ok (.iload_n 3, 1) := by decide +kernel
theorem dX7_isListed_22 : decode cX7_isListed 22 = .ok (.aload_n 0, 1) := by decide +kernel
theorem dX7_isListed_23 : decode cX7_isListed 23 = .ok (.getfield 105, 3) := by decide +kernel
theorem dX7_isListed_26 : decode cX7_isListed 26 = .ok (.if_icmp .ge 40, 3) := by decide +kernel
theorem dX7_isListed_29 : decode cX7_isListed 29 = .ok (.iload_n 2, 1) := by decide +kernel
theorem dX7_isListed_30 : decode cX7_isListed 30 = .ok (.ifCond .eq 36, 3) := by decide +kernel
theorem dX7_isListed_33 : decode cX7_isListed 33 = .ok (.aload_n 0, 1) := by decide +kernel
theorem dX7_isListed_34 : decode cX7_isListed 34 = .ok (.getfield 41, 3) := by decide +kernel
theorem dX7_isListed_37 : decode cX7_isListed 37 = .ok (.sipush 128, 3) := by decide +kernel
theorem dX7_isListed_40 : decode cX7_isListed 40 = .ok (.iload_n 1, 1) := by decide +kernel
theorem dX7_isListed_41 : decode cX7_isListed 41 = .ok (.imul, 1) := by decide +kernel
theorem dX7_isListed_42 : decode cX7_isListed 42 = .ok (.iload_n 3, 1) := by decide +kernel
theorem dX7_isListed_43 : decode cX7_isListed 43 = .ok (.iadd, 1) := by decide +kernel
theorem dX7_isListed_44 : decode cX7_isListed 44 = .ok (.baload, 1) := by decide +kernel
theorem dX7_isListed_45 : decode cX7_isListed 45 = .ok (.aload_n 0, 1) := by decide +kernel
theorem dX7_isListed_46 : decode cX7_isListed 46 = .ok (.getfield 35, 3) := by decide +kernel
theorem dX7_isListed_49 : decode cX7_isListed 49 = .ok (.iload_n 3, 1) := by decide +kernel
theorem dX7_isListed_50 : decode cX7_isListed 50 = .ok (.iaload, 1) := by decide +kernel
theorem dX7_isListed_51 : decode cX7_isListed 51 = .ok (.if_icmp .ne 7, 3) := by decide +kernel
theorem dX7_isListed_54 : decode cX7_isListed 54 = .ok (.iconst 1, 1) := by decide +kernel
theorem dX7_isListed_55 : decode cX7_isListed 55 = .ok (.goto 4, 3) := by decide +kernel
theorem dX7_isListed_58 : decode cX7_isListed 58 = .ok (.iconst 0, 1) := by decide +kernel
theorem dX7_isListed_59 : decode cX7_isListed 59 = .ok (.istore_n 2, 1) := by decide +kernel
theorem dX7_isListed_60 : decode cX7_isListed 60 = .ok (.iinc 3 1, 3) := by decide +kernel
theorem dX7_isListed_63 : decode cX7_isListed 63 = .ok (.goto (-42), 3) := by decide +kernel
theorem dX7_isListed_66 : decode cX7_isListed 66 = .ok (.iload_n 2, 1) := by decide +kernel
theorem dX7_isListed_67 : decode cX7_isListed 67 = .ok (.ireturn, 1) := by decide +kernel
theorem dX7_enlist_0 : decode cX7_enlist 0 = .ok (.aload_n 0, 1) := by decide +kernel
theorem dX7_enlist_1 : decode cX7_enlist 1 = .ok (.getfield 193, 3) := by decide +kernel
theorem dX7_enlist_4 : decode cX7_enlist 4 = .ok (.bipush 40, 2) := by decide +kernel
theorem dX7_enlist_6 : decode cX7_enlist 6 = .ok (.if_icmp .gt 7, 3) := by decide +kernel
theorem dX7_enlist_9 : decode cX7_enlist 9 = .ok (.iconst 1, 1) := by decide +kernel
theorem dX7_enlist_10 : decode cX7_enlist 10 = .ok (.goto 4, 3) := by decide +kernel
theorem dX7_enlist_13 : decode cX7_enlist 13 = .ok (.iconst 0, 1) := by decide +kernel
theorem dX7_enlist_14 : decode cX7_enlist 14 = .ok (.istore_n 1, 1) := by decide +kernel
theorem dX7_enlist_15 : decode cX7_enlist 15 = .ok (.iconst 0, 1) := by decide +kernel
theorem dX7_enlist_16 : decode cX7_enlist 16 = .ok (.istore_n 2, 1) := by decide +kernel
theorem dX7_enlist_17 : decode cX7_enlist 17 = .ok (.iload_n 2, 1) := by decide +kernel
theorem dX7_enlist_18 : decode cX7_enlist 18 = .ok (.aload_n 0, 1) := by decide +kernel
theorem dX7_enlist_19 : decode cX7_enlist 19 = .ok (.getfield 193, 3) := by decide +kernel
theorem dX7_enlist_22 : decode cX7_enlist 22 = .ok (.if_icmp .ge 27, 3) := by decide +kernel
theorem dX7_enlist_25 : decode cX7_enlist 25 = .ok (.iload_n 1, 1) := by decide +kernel
theorem dX7_enlist_26 : decode cX7_enlist 26 = .ok (.ifCond .eq 23, 3) := by decide +kernel
theorem dX7_enlist_29 : decode cX7_enlist 29 = .ok (.aload_n 0, 1) := by decide +kernel
theorem dX7_enlist_30 : decode cX7_enlist 30 = .ok (.iload_n 2, 1) := by decide +kernel
theorem dX7_enlist_31 : decode cX7_enlist 31 = .ok (.invokevirtual 196, 3) := by decide +kernel
theorem dX7_enlist_34 : decode cX7_enlist 34 = .ok (.ifCond .ne 7, 3) := by decide +kernel
theorem dX7_enlist_37 : decode cX7_enlist 37 = .ok (.iconst 1, 1) := by decide +kernel
theorem dX7_enlist_38 : decode cX7_enlist 38 = .ok (.goto 4, 3) := by decide +kernel
theorem dX7_enlist_41 : decode cX7_enlist 41 = .ok (.iconst 0, 1) := by decide +kernel
theorem dX7_enlist_42 : decode cX7_enlist 42 = .ok (.istore_n 1, 1) := by decide +kernel
theorem dX7_enlist_43 : decode cX7_enlist 43 = .ok (.iinc 2 1, 3) := by decide +kernel
theorem dX7_enlist_46 : decode cX7_enlist 46 = .ok (.goto (-29), 3) := by decide +kernel
theorem dX7_enlist_49 : decode cX7_enlist 49 = .ok (.iload_n 1, 1) := by decide +kernel
theorem dX7_enlist_50 : decode cX7_enlist 50 = .ok (.ifCond .eq 64, 3) := by decide +kernel
theorem dX7_enlist_53 : decode cX7_enlist 53 = .ok (.aload_n 0, 1) := by decide +kernel
theorem dX7_enlist_54 : decode cX7_enlist 54 = .ok (.getfield 38, 3) := by decide +kernel
theorem dX7_enlist_57 : decode cX7_enlist 57 = .ok (.aload_n 0, 1) := by decide +kernel
theorem dX7_enlist_58 : decode cX7_enlist 58 = .ok (.getfield 193, 3) := by decide +kernel
theorem dX7_enlist_61 : decode cX7_enlist 61 = .ok (.aload_n 0, 1) := by decide +kernel
theorem dX7_enlist_62 : decode cX7_enlist 62 = .ok (.getfield 105, 3) := by decide +kernel
theorem dX7_enlist_65 : decode cX7_enlist 65 = .ok (.iastore, 1) := by decide +kernel
theorem dX7_enlist_66 : decode cX7_enlist 66 = .ok (.iconst 0, 1) := by decide +kernel
theorem dX7_enlist_67 : decode cX7_enlist 67 = .ok (.istore_n 2, 1) := by decide +kernel
theorem dX7_enlist_68 : decode cX7_enlist 68 = .ok (.iload_n 2, 1) := by decide +kernel
theorem dX7_enlist_69 : decode cX7_enlist 69 = .ok (.aload_n 0, 1) := by decide +kernel
theorem dX7_enlist_70 : decode cX7_enlist 70 = .ok (.getfield 105, 3) := by decide +kernel
theorem dX7_enlist_73 : decode cX7_enlist 73 = .ok (.if_icmp .ge 31, 3) := by decide +kernel
theorem dX7_enlist_76 : decode cX7_enlist 76 = .ok (.aload_n 0, 1) := by decide +kernel
theorem dX7_enlist_77 : decode cX7_enlist 77 = .ok (.getfield 41, 3) := by decide +kernel
theorem dX7_enlist_80 : decode cX7_enlist 80 = .ok (.sipush 128, 3) := by decide +kernel
theorem dX7_enlist_83 : decode cX7_enlist 83 = .ok (.aload_n 0, 1) := by decide +kernel
theorem dX7_enlist_84 : decode cX7_enlist 84 = .ok (.getfield 193, 3) := by decide +kernel
theorem dX7_enlist_87 : decode cX7_enlist 87 = .ok (.imul, 1) := by decide +kernel
theorem dX7_enlist_88 : decode cX7_enlist 88 = .ok (.iload_n 2, 1) := by decide +kernel
theorem dX7_enlist_89 : decode cX7_enlist 89 = .ok (.iadd, 1) := by decide +kernel
theorem dX7_enlist_90 : decode cX7_enlist 90 = .ok (.aload_n 0, 1) := by decide +kernel
theorem dX7_enlist_91 : decode cX7_enlist 91 = .ok (.getfield 35, 3) := by decide +kernel
theorem dX7_enlist_94 : decode cX7_enlist 94 = .ok (.iload_n 2, 1) := by decide +kernel
theorem dX7_enlist_95 : decode cX7_enlist 95 = .ok (.iaload, 1) := by decide +kernel
theorem dX7_enlist_96 : decode cX7_enlist 96 = .ok (.i2b, 1) := by decide +kernel
theorem dX7_enlist_97 : decode cX7_enlist 97 = .ok (.bastore, 1) := by decide +kernel
theorem dX7_enlist_98 : decode cX7_enlist 98 = .ok (.iinc 2 1, 3) := by decide +kernel
theorem dX7_enlist_101 : decode cX7_enlist 101 = .ok (.goto (-33), 3) := by decide +kernel
theorem dX7_enlist_104 : decode cX7_enlist 104 = .ok (.aload_n 0, 1) := by decide +kernel
theorem dX7_enlist_105 : decode cX7_enlist 105 = .ok (.dup, 1) := by decide +kernel
theorem dX7_enlist_106 : decode cX7_enlist 106 = .ok (.getfield 193, 3) := by decide +kernel
theorem dX7_enlist_109 : decode cX7_enlist 109 = .ok (.iconst 1, 1) := by decide +kernel
theorem dX7_enlist_110 : decode cX7_enlist 110 = .ok (.iadd, 1) := by decide +kernel
theorem dX7_enlist_111 : decode cX7_enlist 111 = .ok (.putfield 193, 3) := by decide +kernel
theorem dX7_enlist_114 : decode cX7_enlist 114 = .ok (.return_, 1) := by decide +kernel
theorem dX7_isFlipping_0 : decode cX7_isFlipping 0 = .ok (.iconst 0, 1) := by decide +kernel
theorem dX7_isFlipping_1 : decode cX7_isFlipping 1 = .ok (.istore_n 2, 1) := by decide +kernel
theorem dX7_isFlipping_2 : decode cX7_isFlipping 2 = .ok (.iconst 0, 1) := by decide +kernel
theorem dX7_isFlipping_3 : decode cX7_isFlipping 3 = .ok (.istore_n 3, 1) := by decide +kernel
theorem dX7_isFlipping_4 : decode cX7_isFlipping 4 = .ok (.iload_n 3, 1) := by decide +kernel
theorem dX7_isFlipping_5 : decode cX7_isFlipping 5 = .ok (.aload_n 0, 1) := by decide +kernel
theorem dX7_isFlipping_6 : decode cX7_isFlipping 6 = .ok (.getfield 38, 3) := by decide +kernel
theorem dX7_isFlipping_9 : decode cX7_isFlipping 9 = .ok (.iload_n 1, 1) := by decide +kernel
theorem dX7_isFlipping_10 : decode cX7_isFlipping 10 = .ok (.iaload, 1) := by decide +kernel
theorem dX7_isFlipping_11 : decode cX7_isFlipping 11 = .ok (.if_icmp .ge 30, 3) := by decide +kernel
theorem dX7_isFlipping_14 : decode cX7_isFlipping 14 = .ok (.iload_n 2, 1) := by decide +kernel
theorem dX7_isFlipping_15 : decode cX7_isFlipping 15 = .ok (.aload_n 0, 1) := by decide +kernel
theorem dX7_isFlipping_16 : decode cX7_isFlipping 16 = .ok (.aload_n 0, 1) := by decide +kernel
theorem dX7_isFlipping_17 : decode cX7_isFlipping 17 = .ok (.getfield 41, 3) := by decide +kernel
theorem dX7_isFlipping_20 : decode cX7_isFlipping 20 = .ok (.sipush 128, 3) := by decide +kernel
theorem dX7_isFlipping_23 : decode cX7_isFlipping 23 = .ok (.iload_n 1, 1) := by decide +kernel
theorem dX7_isFlipping_24 : decode cX7_isFlipping 24 = .ok (.imul, 1) := by decide +kernel
theorem dX7_isFlipping_25 : decode cX7_isFlipping 25 = .ok (.iload_n 3, 1) := by decide +kernel
theorem dX7_isFlipping_26 : decode cX7_isFlipping 26 = .ok (.iadd, 1) := by decide +kernel
theorem dX7_isFlipping_27 : decode cX7_isFlipping 27 = .ok (.baload, 1) := by decide +kernel
theorem dX7_isFlipping_28 : decode cX7_isFlipping 28 = .ok (.iconst 2, 1) := by decide +kernel
theorem dX7_isFlipping_29 : decode cX7_isFlipping 29 = .ok (.idiv, 1) := by decide +kernel
theorem dX7_isFlipping_30 : decode cX7_isFlipping 30 = .ok (.invokevirtual 124, 3) := by decide +kernel
theorem dX7_isFlipping_33 : decode cX7_isFlipping 33 = .ok (.iadd, 1) := by decide +kernel
theorem dX7_isFlipping_34 : decode cX7_isFlipping 34 = .ok (.istore_n 2, 1) := by decide +kernel
theorem dX7_isFlipping_35 : decode cX7_isFlipping 35 = .ok (.iinc 3 1, 3) := by decide +kernel
theorem dX7_isFlipping_38 : decode cX7_isFlipping 38 = .ok (.goto (-34), 3) := by decide +kernel
theorem dX7_isFlipping_41 : decode cX7_isFlipping 41 = .ok (.iload_n 2, 1) := by decide +kernel
theorem dX7_isFlipping_42 : decode cX7_isFlipping 42 = .ok (.iconst 2, 1) := by decide +kernel
theorem dX7_isFlipping_43 : decode cX7_isFlipping 43 = .ok (.irem, 1) := by decide +kernel
theorem dX7_isFlipping_44 : decode cX7_isFlipping 44 = .ok (.iconst 1, 1) := by decide +kernel
theorem dX7_isFlipping_45 : decode cX7_isFlipping 45 = .ok (.if_icmp .ne 7, 3) := by decide +kernel
theorem dX7_isFlipping_48 : decode cX7_isFlipping 48 = .ok (.iconst 1, 1) := by decide +kernel
theorem dX7_isFlipping_49 : decode cX7_isFlipping 49 = .ok (.goto 4, 3) := by decide +kernel
theorem dX7_isFlipping_52 : decode cX7_isFlipping 52 = .ok (.iconst 0, 1) := by decide +kernel
theorem dX7_isFlipping_53 : decode cX7_isFlipping 53 = .ok (.ireturn, 1) := by decide +kernel
theorem dX7_makeSection_0 : decode cX7_makeSection 0 = .ok (.iload_n 2, 1) := by decide +kernel
theorem dX7_makeSection_1 : decode cX7_makeSection 1 = .ok (.istore_n 3, 1) := by decide +kernel
theorem dX7_makeSection_2 : decode cX7_makeSection 2 = .ok (.aload_n 0, 1) := by decide +kernel
theorem dX7_makeSection_3 : decode cX7_makeSection 3 = .ok (.invokevirtual 118, 3) := by decide +kernel
theorem dX7_makeSection_6 : decode cX7_makeSection 6 = .ok (.iconst 0, 1) := by decide +kernel
theorem dX7_makeSection_7 : decode cX7_makeSection 7 = .ok (.istore 4, 2) := by decide +kernel
theorem dX7_makeSection_9 : decode cX7_makeSection 9 = .ok (.iload 4, 2) := by decide +kernel
theorem dX7_makeSection_11 : decode cX7_makeSection 11 = .ok (.aload_n 0, 1) := by decide +kernel
theorem dX7_makeSection_12 : decode cX7_makeSection 12 = .ok (.getfield 38, 3) := by decide +kernel
theorem dX7_makeSection_15 : decode cX7_makeSection 15 = .ok (.iload_n 1, 1) := by decide +kernel
theorem dX7_makeSection_16 : decode cX7_makeSection 16 = .ok (.iaload, 1) := by decide +kernel
theorem dX7_makeSection_17 : decode cX7_makeSection 17 = .ok (.if_icmp .ge 56, 3) := by decide +kernel
theorem dX7_makeSection_20 : decode cX7_makeSection 20 = .ok (.aload_n 0, 1) := by decide +kernel
theorem dX7_makeSection_21 : decode cX7_makeSection 21 = .ok (.getfield 41, 3) := by decide +kernel
theorem dX7_makeSection_24 : decode cX7_makeSection 24 = .ok (.sipush 128, 3) := by decide +kernel
theorem dX7_makeSection_27 : decode cX7_makeSection 27 = .ok (.iload_n 1, 1) := by decide +kernel
theorem dX7_makeSection_28 : decode cX7_makeSection 28 = .ok (.imul, 1) := by decide +kernel
theorem dX7_makeSection_29 : decode cX7_makeSection 29 = .ok (.iload 4, 2) := by decide +kernel
theorem dX7_makeSection_31 : decode cX7_makeSection 31 = .ok (.iadd, 1) := by decide +kernel
theorem dX7_makeSection_32 : decode cX7_makeSection 32 = .ok (.baload, 1) := by decide +kernel
theorem dX7_makeSection_33 : decode cX7_makeSection 33 = .ok (.istore 5, 2) := by decide +kernel
theorem dX7_makeSection_35 : decode cX7_makeSection 35 = .ok (.aload_n 0, 1) := by decide +kernel
theorem dX7_makeSection_36 : decode cX7_makeSection 36 = .ok (.iload 5, 2) := by decide +kernel
theorem dX7_makeSection_38 : decode cX7_makeSection 38 = .ok (.iload_n 3, 1) := by decide +kernel
theorem dX7_makeSection_39 : decode cX7_makeSection 39 = .ok (.invokevirtual 131, 3) := by decide +kernel
theorem dX7_makeSection_42 : decode cX7_makeSection 42 = .ok (.istore 6, 2) := by decide +kernel
theorem dX7_makeSection_44 : decode cX7_makeSection 44 = .ok (.iload 6, 2) := by decide +kernel
theorem dX7_makeSection_46 : decode cX7_makeSection 46 = .ok (.iconst (-1), 1) := by decide +kernel
theorem dX7_makeSection_47 : decode cX7_makeSection 47 = .ok (.if_icmp .eq 9, 3) := by decide +kernel
theorem dX7_makeSection_50 : decode cX7_makeSection 50 = .ok (.aload_n 0, 1) := by decide +kernel
theorem dX7_makeSection_51 : decode cX7_makeSection 51 = .ok (.iload 6, 2) := by decide +kernel
theorem dX7_makeSection_53 : decode cX7_makeSection 53 = .ok (.invokevirtual 108, 3) := by decide +kernel
theorem dX7_makeSection_56 : decode cX7_makeSection 56 = .ok (.iload_n 3, 1) := by decide +kernel
theorem dX7_makeSection_57 : decode cX7_makeSection 57 = .ok (.aload_n 0, 1) := by decide +kernel
theorem dX7_makeSection_58 : decode cX7_makeSection 58 = .ok (.iload 5, 2) := by decide +kernel
theorem dX7_makeSection_60 : decode cX7_makeSection 60 = .ok (.iconst 2, 1) := by decide +kernel
theorem dX7_makeSection_61 : decode cX7_makeSection 61 = .ok (.idiv, 1) := by decide +kernel
theorem dX7_makeSection_62 : decode cX7_makeSection 62 = .ok (.invokevirtual 124, 3) := by decide +kernel
theorem dX7_makeSection_65 : decode cX7_makeSection 65 = .ok (.ixor, 1) := by decide +kernel
theorem dX7_makeSection_66 : decode cX7_makeSection 66 = .ok (.istore_n 3, 1) := by decide +kernel
theorem dX7_makeSection_67 : decode cX7_makeSection 67 = .ok (.iinc 4 1, 3) := by decide +kernel
theorem dX7_makeSection_70 : decode cX7_makeSection 70 = .ok (.goto (-61), 3) := by decide +kernel
theorem dX7_makeSection_73 : decode cX7_makeSection 73 = .ok (.return_, 1) := by decide +kernel
theorem dX7_isNothing_0 : decode cX7_isNothing 0 = .ok (.aload_n 0, 1) := by decide +kernel
theorem dX7_isNothing_1 : decode cX7_isNothing 1 = .ok (.iconst 0, 1) := by decide +kernel
theorem dX7_isNothing_2 : decode cX7_isNothing 2 = .ok (.putfield 193, 3) := by decide +kernel
theorem dX7_isNothing_5 : decode cX7_isNothing 5 = .ok (.aload_n 0, 1) := by decide +kernel
theorem dX7_isNothing_6 : decode cX7_isNothing 6 = .ok (.invokevirtual 199, 3) := by decide +kernel
theorem dX7_isNothing_9 : decode cX7_isNothing 9 = .ok (.iconst 0, 1) := by decide +kernel
theorem dX7_isNothing_10 : decode cX7_isNothing 10 = .ok (.istore_n 1, 1) := by decide +kernel
theorem dX7_isNothing_11 : decode cX7_isNothing 11 = .ok (.iload_n 1, 1) := by decide +kernel
theorem dX7_isNothing_12 : decode cX7_isNothing 12 = .ok (.aload_n 0, 1) := by decide +kernel
theorem dX7_isNothing_13 : decode cX7_isNothing 13 = .ok (.getfield 193, 3) := by decide +kernel
theorem dX7_isNothing_16 : decode cX7_isNothing 16 = .ok (.if_icmp .ge 50, 3) := by decide +kernel
theorem dX7_isNothing_19 : decode cX7_isNothing 19 = .ok (.iload_n 1, 1) := by decide +kernel
theorem dX7_isNothing_20 : decode cX7_isNothing 20 = .ok (.bipush 40, 2) := by decide +kernel
theorem dX7_isNothing_22 : decode cX7_isNothing 22 = .ok (.if_icmp .ne 5, 3) := by decide +kernel
theorem dX7_isNothing_25 : decode cX7_isNothing 25 = .ok (.iconst (-1), 1) := by decide +kernel
theorem dX7_isNothing_26 : decode cX7_isNothing 26 = .ok (.ireturn, 1) := by decide +kernel
theorem dX7_isNothing_27 : decode cX7_isNothing 27 = .ok (.aload_n 0, 1) := by decide +kernel
theorem dX7_isNothing_28 : decode cX7_isNothing 28 = .ok (.iload_n 1, 1) := by decide +kernel
theorem dX7_isNothing_29 : decode cX7_isNothing 29 = .ok (.invokevirtual 202, 3) := by decide +kernel
theorem dX7_isNothing_32 : decode cX7_isNothing 32 = .ok (.ifCond .eq 5, 3) := by decide +kernel
theorem dX7_isNothing_35 : decode cX7_isNothing 35 = .ok (.iconst 0, 1) := by decide +kernel
theorem dX7_isNothing_36 : decode cX7_isNothing 36 = .ok (.ireturn, 1) := by decide +kernel
theorem dX7_isNothing_37 : decode cX7_isNothing 37 = .ok (.iconst 0, 1) := by decide +kernel
theorem dX7_isNothing_38 : decode cX7_isNothing 38 = .ok (.istore_n 2, 1) := by decide +kernel
theorem dX7_isNothing_39 : decode cX7_isNothing 39 = .ok (.iload_n 2, 1) := by decide +kernel
theorem dX7_isNothing_40 : decode cX7_isNothing 40 = .ok (.iconst 2, 1) := by decide +kernel
theorem dX7_isNothing_41 : decode cX7_isNothing 41 = .ok (.if_icmp .ge 19, 3) := by decide +kernel
theorem dX7_isNothing_44 : decode cX7_isNothing 44 = .ok (.aload_n 0, 1) := by decide +kernel
theorem dX7_isNothing_45 : decode cX7_isNothing 45 = .ok (.iload_n 1, 1) := by decide +kernel
theorem dX7_isNothing_46 : decode cX7_isNothing 46 = .ok (.iload_n 2, 1) := by decide +kernel
theorem dX7_isNothing_47 : decode cX7_isNothing 47 = .ok (.invokevirtual 205, 3) := by decide +kernel
theorem dX7_isNothing_50 : decode cX7_isNothing 50 = .ok (.aload_n 0, 1) := by decide +kernel
theorem dX7_isNothing_51 : decode cX7_isNothing 51 = .ok (.invokevirtual 199, 3) := by decide +kernel
theorem dX7_isNothing_54 : decode cX7_isNothing 54 = .ok (.iinc 2 1, 3) := by decide +kernel
theorem dX7_isNothing_57 : decode cX7_isNothing 57 = .ok (.goto (-18), 3) := by decide +kernel
theorem dX7_isNothing_60 : decode cX7_isNothing 60 = .ok (.iinc 1 1, 3) := by decide +kernel
theorem dX7_isNothing_63 : decode cX7_isNothing 63 = .ok (.goto (-52), 3) := by decide +kernel
theorem dX7_isNothing_66 : decode cX7_isNothing 66 = .ok (.iconst 1, 1) := by decide +kernel
theorem dX7_isNothing_67 : decode cX7_isNothing 67 = .ok (.ireturn, 1) := by decide +kernel
theorem dX7_nothingOf_0 : decode cX7_nothingOf 0 = .ok (.aload_n 0, 1) := by decide +kernel
theorem dX7_nothingOf_1 : decode cX7_nothingOf 1 = .ok (.invokevirtual 118, 3) := by decide +kernel
theorem dX7_nothingOf_4 : decode cX7_nothingOf 4 = .ok (.aload_n 0, 1) := by decide +kernel
theorem dX7_nothingOf_5 : decode cX7_nothingOf 5 = .ok (.iload_n 1, 1) := by decide +kernel
theorem dX7_nothingOf_6 : decode cX7_nothingOf 6 = .ok (.invokevirtual 209, 3) := by decide +kernel
theorem dX7_nothingOf_9 : decode cX7_nothingOf 9 = .ok (.aload_n 0, 1) := by decide +kernel
theorem dX7_nothingOf_10 : decode cX7_nothingOf 10 = .ok (.invokevirtual 212, 3) := by decide +kernel
theorem dX7_nothingOf_13 : decode cX7_nothingOf 13 = .ok (.ireturn, 1) := by decide +kernel
theorem dX7_nothing_0 : decode cX7_nothing 0 = .ok (.aload_n 0, 1) := by decide +kernel
theorem dX7_nothing_1 : decode cX7_nothing 1 = .ok (.iload_n 1, 1) := by decide +kernel
theorem dX7_nothing_2 : decode cX7_nothing 2 = .ok (.invokevirtual 112, 3) := by decide +kernel
theorem dX7_nothing_5 : decode cX7_nothing 5 = .ok (.ifCond .eq 11, 3) := by decide +kernel
theorem dX7_nothing_8 : decode cX7_nothing 8 = .ok (.aload_n 0, 1) := by decide +kernel
theorem dX7_nothing_9 : decode cX7_nothing 9 = .ok (.iload_n 1, 1) := by decide +kernel
theorem dX7_nothing_10 : decode cX7_nothing 10 = .ok (.invokevirtual 215, 3) := by decide +kernel
theorem dX7_nothing_13 : decode cX7_nothing 13 = .ok (.goto 5, 3) := by decide +kernel
theorem dX7_nothing_16 : decode cX7_nothing 16 = .ok (.bipush (-101), 2) := by decide +kernel
theorem dX7_nothing_18 : decode cX7_nothing 18 = .ok (.ireturn, 1) := by decide +kernel
theorem dX7_alike_0 : decode cX7_alike 0 = .ok (.aload_n 0, 1) := by decide +kernel
theorem dX7_alike_1 : decode cX7_alike 1 = .ok (.iload_n 1, 1) := by decide +kernel
theorem dX7_alike_2 : decode cX7_alike 2 = .ok (.invokevirtual 112, 3) := by decide +kernel
theorem dX7_alike_5 : decode cX7_alike 5 = .ok (.ifCond .eq 11, 3) := by decide +kernel
theorem dX7_alike_8 : decode cX7_alike 8 = .ok (.aload_n 0, 1) := by decide +kernel
theorem dX7_alike_9 : decode cX7_alike 9 = .ok (.iload_n 2, 1) := by decide +kernel
theorem dX7_alike_10 : decode cX7_alike 10 = .ok (.invokevirtual 112, 3) := by decide +kernel
theorem dX7_alike_13 : decode cX7_alike 13 = .ok (.ifCond .ne 6, 3) := by decide +kernel
theorem dX7_alike_16 : decode cX7_alike 16 = .ok (.bipush (-101), 2) := by decide +kernel
theorem dX7_alike_18 : decode cX7_alike 18 = .ok (.ireturn, 1) := by decide +kernel
theorem dX7_alike_19 : decode cX7_alike 19 = .ok (.aload_n 0, 1) := by decide +kernel
theorem dX7_alike_20 : decode cX7_alike 20 = .ok (.invokevirtual 118, 3) := by decide +kernel
theorem dX7_alike_23 : decode cX7_alike 23 = .ok (.aload_n 0, 1) := by decide +kernel
theorem dX7_alike_24 : decode cX7_alike 24 = .ok (.iload_n 1, 1) := by decide +kernel
theorem dX7_alike_25 : decode cX7_alike 25 = .ok (.invokevirtual 209, 3) := by decide +kernel
theorem dX7_alike_28 : decode cX7_alike 28 = .ok (.aload_n 0, 1) := by decide +kernel
theorem dX7_alike_29 : decode cX7_alike 29 = .ok (.iload_n 2, 1) := by decide +kernel
theorem dX7_alike_30 : decode cX7_alike 30 = .ok (.invokevirtual 218, 3) := by decide +kernel
theorem dX7_alike_33 : decode cX7_alike 33 = .ok (.aload_n 0, 1) := by decide +kernel
theorem dX7_alike_34 : decode cX7_alike 34 = .ok (.invokevirtual 212, 3) := by decide +kernel
theorem dX7_alike_37 : decode cX7_alike 37 = .ok (.ireturn, 1) := by decide +kernel
theorem dX7_orderOf_0 : decode cX7_orderOf 0 = .ok (.iconst 1, 1) := by decide +kernel
theorem dX7_orderOf_1 : decode cX7_orderOf 1 = .ok (.istore_n 2, 1) := by decide +kernel
theorem dX7_orderOf_2 : decode cX7_orderOf 2 = .ok (.iload_n 2, 1) := by decide +kernel
theorem dX7_orderOf_3 : decode cX7_orderOf 3 = .ok (.bipush 8, 2) := by decide +kernel
theorem dX7_orderOf_5 : decode cX7_orderOf 5 = .ok (.if_icmp .gt 51, 3) := by decide +kernel
theorem dX7_orderOf_8 : decode cX7_orderOf 8 = .ok (.aload_n 0, 1) := by decide +kernel
theorem dX7_orderOf_9 : decode cX7_orderOf 9 = .ok (.invokevirtual 118, 3) := by decide +kernel
theorem dX7_orderOf_12 : decode cX7_orderOf 12 = .ok (.iconst 0, 1) := by decide +kernel
theorem dX7_orderOf_13 : decode cX7_orderOf 13 = .ok (.istore_n 3, 1) := by decide +kernel
theorem dX7_orderOf_14 : decode cX7_orderOf 14 = .ok (.iload_n 3, 1) := by decide +kernel
theorem dX7_orderOf_15 : decode cX7_orderOf 15 = .ok (.iload_n 2, 1) := by decide +kernel
theorem dX7_orderOf_16 : decode cX7_orderOf 16 = .ok (.if_icmp .ge 14, 3) := by decide +kernel
theorem dX7_orderOf_19 : decode cX7_orderOf 19 = .ok (.aload_n 0, 1) := by decide +kernel
theorem dX7_orderOf_20 : decode cX7_orderOf 20 = .ok (.iload_n 1, 1) := by decide +kernel
theorem dX7_orderOf_21 : decode cX7_orderOf 21 = .ok (.invokevirtual 209, 3) := by decide +kernel
theorem dX7_orderOf_24 : decode cX7_orderOf 24 = .ok (.iinc 3 1, 3) := by decide +kernel
theorem dX7_orderOf_27 : decode cX7_orderOf 27 = .ok (.goto (-13), 3) := by decide +kernel
theorem dX7_orderOf_30 : decode cX7_orderOf 30 = .ok (.aload_n 0, 1) := by decide +kernel
theorem dX7_orderOf_31 : decode cX7_orderOf 31 = .ok (.invokevirtual 212, 3) := by decide +kernel
theorem dX7_orderOf_34 : decode cX7_orderOf 34 = .ok (.istore_n 3, 1) := by decide +kernel
theorem dX7_orderOf_35 : decode cX7_orderOf 35 = .ok (.iload_n 3, 1) := by decide +kernel
theorem dX7_orderOf_36 : decode cX7_orderOf 36 = .ok (.ifCond .eq 14, 3) := by decide +kernel
theorem dX7_orderOf_39 : decode cX7_orderOf 39 = .ok (.iload_n 3, 1) := by decide +kernel
theorem dX7_orderOf_40 : decode cX7_orderOf 40 = .ok (.iconst 1, 1) := by decide +kernel
theorem dX7_orderOf_41 : decode cX7_orderOf 41 = .ok (.if_icmp .ne 7, 3) := by decide +kernel
theorem dX7_orderOf_44 : decode cX7_orderOf 44 = .ok (.iload_n 2, 1) := by decide +kernel
theorem dX7_orderOf_45 : decode cX7_orderOf 45 = .ok (.goto 4, 3) := by decide +kernel
theorem dX7_orderOf_48 : decode cX7_orderOf 48 = .ok (.iconst (-1), 1) := by decide +kernel
theorem dX7_orderOf_49 : decode cX7_orderOf 49 = .ok (.ireturn, 1) := by decide +kernel
theorem dX7_orderOf_50 : decode cX7_orderOf 50 = .ok (.iinc 2 1, 3) := by decide +kernel
theorem dX7_orderOf_53 : decode cX7_orderOf 53 = .ok (.goto (-51), 3) := by decide +kernel
theorem dX7_orderOf_56 : decode cX7_orderOf 56 = .ok (.iconst (-1), 1) := by decide +kernel
theorem dX7_orderOf_57 : decode cX7_orderOf 57 = .ok (.ireturn, 1) := by decide +kernel
theorem dX7_order_0 : decode cX7_order 0 = .ok (.aload_n 0, 1) := by decide +kernel
theorem dX7_order_1 : decode cX7_order 1 = .ok (.iload_n 1, 1) := by decide +kernel
theorem dX7_order_2 : decode cX7_order 2 = .ok (.invokevirtual 112, 3) := by decide +kernel
theorem dX7_order_5 : decode cX7_order 5 = .ok (.ifCond .eq 11, 3) := by decide +kernel
theorem dX7_order_8 : decode cX7_order 8 = .ok (.aload_n 0, 1) := by decide +kernel
theorem dX7_order_9 : decode cX7_order 9 = .ok (.iload_n 1, 1) := by decide +kernel
theorem dX7_order_10 : decode cX7_order 10 = .ok (.invokevirtual 221, 3) := by decide +kernel
theorem dX7_order_13 : decode cX7_order 13 = .ok (.goto 5, 3) := by decide +kernel
theorem dX7_order_16 : decode cX7_order 16 = .ok (.bipush (-101), 2) := by decide +kernel
theorem dX7_order_18 : decode cX7_order 18 = .ok (.ireturn, 1) := by decide +kernel
theorem dX7_times_0 : decode cX7_times 0 = .ok (.aload_n 0, 1) := by decide +kernel
theorem dX7_times_1 : decode cX7_times 1 = .ok (.iload_n 1, 1) := by decide +kernel
theorem dX7_times_2 : decode cX7_times 2 = .ok (.invokevirtual 112, 3) := by decide +kernel
theorem dX7_times_5 : decode cX7_times 5 = .ok (.ifCond .eq 19, 3) := by decide +kernel
theorem dX7_times_8 : decode cX7_times 8 = .ok (.aload_n 0, 1) := by decide +kernel
theorem dX7_times_9 : decode cX7_times 9 = .ok (.iload_n 2, 1) := by decide +kernel
theorem dX7_times_10 : decode cX7_times 10 = .ok (.invokevirtual 112, 3) := by decide +kernel
theorem dX7_times_13 : decode cX7_times 13 = .ok (.ifCond .eq 11, 3) := by decide +kernel
theorem dX7_times_16 : decode cX7_times 16 = .ok (.aload_n 0, 1) := by decide +kernel
theorem dX7_times_17 : decode cX7_times 17 = .ok (.iload_n 3, 1) := by decide +kernel
theorem dX7_times_18 : decode cX7_times 18 = .ok (.invokevirtual 112, 3) := by decide +kernel
theorem dX7_times_21 : decode cX7_times 21 = .ok (.ifCond .ne 6, 3) := by decide +kernel
theorem dX7_times_24 : decode cX7_times 24 = .ok (.bipush (-101), 2) := by decide +kernel
theorem dX7_times_26 : decode cX7_times 26 = .ok (.ireturn, 1) := by decide +kernel
theorem dX7_times_27 : decode cX7_times 27 = .ok (.aload_n 0, 1) := by decide +kernel
theorem dX7_times_28 : decode cX7_times 28 = .ok (.invokevirtual 118, 3) := by decide +kernel
theorem dX7_times_31 : decode cX7_times 31 = .ok (.aload_n 0, 1) := by decide +kernel
theorem dX7_times_32 : decode cX7_times 32 = .ok (.iload_n 1, 1) := by decide +kernel
theorem dX7_times_33 : decode cX7_times 33 = .ok (.invokevirtual 209, 3) := by decide +kernel
theorem dX7_times_36 : decode cX7_times 36 = .ok (.aload_n 0, 1) := by decide +kernel
theorem dX7_times_37 : decode cX7_times 37 = .ok (.iload_n 2, 1) := by decide +kernel
theorem dX7_times_38 : decode cX7_times 38 = .ok (.invokevirtual 209, 3) := by decide +kernel
theorem dX7_times_41 : decode cX7_times 41 = .ok (.aload_n 0, 1) := by decide +kernel
theorem dX7_times_42 : decode cX7_times 42 = .ok (.getfield 105, 3) := by decide +kernel
theorem dX7_times_45 : decode cX7_times 45 = .ok (.bipush 16, 2) := by decide +kernel
theorem dX7_times_47 : decode cX7_times 47 = .ok (.if_icmp .le 8, 3) := by decide +kernel
theorem dX7_times_50 : decode cX7_times 50 = .ok (.bipush (-104), 2) := by decide +kernel
theorem dX7_times_52 : decode cX7_times 52 = .ok (.goto 8, 3) := by decide +kernel
theorem dX7_times_55 : decode cX7_times 55 = .ok (.aload_n 0, 1) := by decide +kernel
theorem dX7_times_56 : decode cX7_times 56 = .ok (.iload_n 3, 1) := by decide +kernel
theorem dX7_times_57 : decode cX7_times 57 = .ok (.invokevirtual 121, 3) := by decide +kernel
theorem dX7_times_60 : decode cX7_times 60 = .ok (.ireturn, 1) := by decide +kernel
theorem dX7_undo_0 : decode cX7_undo 0 = .ok (.aload_n 0, 1) := by decide +kernel
theorem dX7_undo_1 : decode cX7_undo 1 = .ok (.iload_n 1, 1) := by decide +kernel
theorem dX7_undo_2 : decode cX7_undo 2 = .ok (.invokevirtual 112, 3) := by decide +kernel
theorem dX7_undo_5 : decode cX7_undo 5 = .ok (.ifCond .eq 11, 3) := by decide +kernel
theorem dX7_undo_8 : decode cX7_undo 8 = .ok (.aload_n 0, 1) := by decide +kernel
theorem dX7_undo_9 : decode cX7_undo 9 = .ok (.iload_n 2, 1) := by decide +kernel
theorem dX7_undo_10 : decode cX7_undo 10 = .ok (.invokevirtual 112, 3) := by decide +kernel
theorem dX7_undo_13 : decode cX7_undo 13 = .ok (.ifCond .ne 6, 3) := by decide +kernel
theorem dX7_undo_16 : decode cX7_undo 16 = .ok (.bipush (-101), 2) := by decide +kernel
theorem dX7_undo_18 : decode cX7_undo 18 = .ok (.ireturn, 1) := by decide +kernel
theorem dX7_undo_19 : decode cX7_undo 19 = .ok (.aload_n 0, 1) := by decide +kernel
theorem dX7_undo_20 : decode cX7_undo 20 = .ok (.invokevirtual 118, 3) := by decide +kernel
theorem dX7_undo_23 : decode cX7_undo 23 = .ok (.aload_n 0, 1) := by decide +kernel
theorem dX7_undo_24 : decode cX7_undo 24 = .ok (.iload_n 1, 1) := by decide +kernel
theorem dX7_undo_25 : decode cX7_undo 25 = .ok (.invokevirtual 218, 3) := by decide +kernel
theorem dX7_undo_28 : decode cX7_undo 28 = .ok (.aload_n 0, 1) := by decide +kernel
theorem dX7_undo_29 : decode cX7_undo 29 = .ok (.iload_n 2, 1) := by decide +kernel
theorem dX7_undo_30 : decode cX7_undo 30 = .ok (.invokevirtual 121, 3) := by decide +kernel
theorem dX7_undo_33 : decode cX7_undo 33 = .ok (.ireturn, 1) := by decide +kernel
theorem dX7_section_0 : decode cX7_section 0 = .ok (.aload_n 0, 1) := by decide +kernel
theorem dX7_section_1 : decode cX7_section 1 = .ok (.iload_n 1, 1) := by decide +kernel
theorem dX7_section_2 : decode cX7_section 2 = .ok (.invokevirtual 112, 3) := by decide +kernel
theorem dX7_section_5 : decode cX7_section 5 = .ok (.ifCond .eq 11, 3) := by decide +kernel
theorem dX7_section_8 : decode cX7_section 8 = .ok (.aload_n 0, 1) := by decide +kernel
theorem dX7_section_9 : decode cX7_section 9 = .ok (.iload_n 3, 1) := by decide +kernel
theorem dX7_section_10 : decode cX7_section 10 = .ok (.invokevirtual 112, 3) := by decide +kernel
theorem dX7_section_13 : decode cX7_section 13 = .ok (.ifCond .ne 6, 3) := by decide +kernel
theorem dX7_section_16 : decode cX7_section 16 = .ok (.bipush (-101), 2) := by decide +kernel
theorem dX7_section_18 : decode cX7_section 18 = .ok (.ireturn, 1) := by decide +kernel
theorem dX7_section_19 : decode cX7_section 19 = .ok (.iload_n 2, 1) := by decide +kernel
theorem dX7_section_20 : decode cX7_section 20 = .ok (.iconst 0, 1) := by decide +kernel
theorem dX7_section_21 : decode cX7_section 21 = .ok (.iconst 1, 1) := by decide +kernel
theorem dX7_section_22 : decode cX7_section 22 = .ok (.invokestatic 69, 3) := by decide +kernel
theorem dX7_section_25 : decode cX7_section 25 = .ok (.ifCond .ne 6, 3) := by decide +kernel
theorem dX7_section_28 : decode cX7_section 28 = .ok (.bipush (-102), 2) := by decide +kernel
theorem dX7_section_30 : decode cX7_section 30 = .ok (.ireturn, 1) := by decide +kernel
theorem dX7_section_31 : decode cX7_section 31 = .ok (.aload_n 0, 1) := by decide +kernel
theorem dX7_section_32 : decode cX7_section 32 = .ok (.iconst 0, 1) := by decide +kernel
theorem dX7_section_33 : decode cX7_section 33 = .ok (.putfield 193, 3) := by decide +kernel
theorem dX7_section_36 : decode cX7_section 36 = .ok (.aload_n 0, 1) := by decide +kernel
theorem dX7_section_37 : decode cX7_section 37 = .ok (.invokevirtual 118, 3) := by decide +kernel
theorem dX7_section_40 : decode cX7_section 40 = .ok (.aload_n 0, 1) := by decide +kernel
theorem dX7_section_41 : decode cX7_section 41 = .ok (.iload_n 1, 1) := by decide +kernel
theorem dX7_section_42 : decode cX7_section 42 = .ok (.invokevirtual 209, 3) := by decide +kernel
theorem dX7_section_45 : decode cX7_section 45 = .ok (.aload_n 0, 1) := by decide +kernel
theorem dX7_section_46 : decode cX7_section 46 = .ok (.invokevirtual 199, 3) := by decide +kernel
theorem dX7_section_49 : decode cX7_section 49 = .ok (.aload_n 0, 1) := by decide +kernel
theorem dX7_section_50 : decode cX7_section 50 = .ok (.iconst 0, 1) := by decide +kernel
theorem dX7_section_51 : decode cX7_section 51 = .ok (.iload_n 2, 1) := by decide +kernel
theorem dX7_section_52 : decode cX7_section 52 = .ok (.invokevirtual 205, 3) := by decide +kernel
theorem dX7_section_55 : decode cX7_section 55 = .ok (.aload_n 0, 1) := by decide +kernel
theorem dX7_section_56 : decode cX7_section 56 = .ok (.iload_n 3, 1) := by decide +kernel
theorem dX7_section_57 : decode cX7_section 57 = .ok (.invokevirtual 121, 3) := by decide +kernel
theorem dX7_section_60 : decode cX7_section 60 = .ok (.ireturn, 1) := by decide +kernel
theorem dX7_aim_0 : decode cX7_aim 0 = .ok (.aload_n 0, 1) := by decide +kernel
theorem dX7_aim_1 : decode cX7_aim 1 = .ok (.iload_n 1, 1) := by decide +kernel
theorem dX7_aim_2 : decode cX7_aim 2 = .ok (.invokevirtual 169, 3) := by decide +kernel
theorem dX7_aim_5 : decode cX7_aim 5 = .ok (.ifCond .eq 16, 3) := by decide +kernel
theorem dX7_aim_8 : decode cX7_aim 8 = .ok (.iload_n 3, 1) := by decide +kernel
theorem dX7_aim_9 : decode cX7_aim 9 = .ok (.iconst (-1), 1) := by decide +kernel
theorem dX7_aim_10 : decode cX7_aim 10 = .ok (.if_icmp .eq 14, 3) := by decide +kernel
theorem dX7_aim_13 : decode cX7_aim 13 = .ok (.aload_n 0, 1) := by decide +kernel
theorem dX7_aim_14 : decode cX7_aim 14 = .ok (.iload_n 3, 1) := by decide +kernel
theorem dX7_aim_15 : decode cX7_aim 15 = .ok (.invokevirtual 169, 3) := by decide +kernel
theorem dX7_aim_18 : decode cX7_aim 18 = .ok (.ifCond .ne 6, 3) := by decide +kernel
theorem dX7_aim_21 : decode cX7_aim 21 = .ok (.bipush (-101), 2) := by decide +kernel
theorem dX7_aim_23 : decode cX7_aim 23 = .ok (.ireturn, 1) := by decide +kernel
theorem dX7_aim_24 : decode cX7_aim 24 = .ok (.iload_n 2, 1) := by decide +kernel
theorem dX7_aim_25 : decode cX7_aim 25 = .ok (.iconst 0, 1) := by decide +kernel
theorem dX7_aim_26 : decode cX7_aim 26 = .ok (.iconst 1, 1) := by decide +kernel
theorem dX7_aim_27 : decode cX7_aim 27 = .ok (.invokestatic 69, 3) := by decide +kernel
theorem dX7_aim_30 : decode cX7_aim 30 = .ok (.ifCond .ne 6, 3) := by decide +kernel
theorem dX7_aim_33 : decode cX7_aim 33 = .ok (.bipush (-102), 2) := by decide +kernel
theorem dX7_aim_35 : decode cX7_aim 35 = .ok (.ireturn, 1) := by decide +kernel
theorem dX7_aim_36 : decode cX7_aim 36 = .ok (.aload_n 0, 1) := by decide +kernel
theorem dX7_aim_37 : decode cX7_aim 37 = .ok (.getfield 13, 3) := by decide +kernel
theorem dX7_aim_40 : decode cX7_aim 40 = .ok (.iconst 2, 1) := by decide +kernel
theorem dX7_aim_41 : decode cX7_aim 41 = .ok (.iload_n 1, 1) := by decide +kernel
theorem dX7_aim_42 : decode cX7_aim 42 = .ok (.imul, 1) := by decide +kernel
theorem dX7_aim_43 : decode cX7_aim 43 = .ok (.iload_n 2, 1) := by decide +kernel
theorem dX7_aim_44 : decode cX7_aim 44 = .ok (.iadd, 1) := by decide +kernel
theorem dX7_aim_45 : decode cX7_aim 45 = .ok (.iaload, 1) := by decide +kernel
theorem dX7_aim_46 : decode cX7_aim 46 = .ok (.istore 4, 2) := by decide +kernel
theorem dX7_aim_48 : decode cX7_aim 48 = .ok (.aload_n 0, 1) := by decide +kernel
theorem dX7_aim_49 : decode cX7_aim 49 = .ok (.getfield 13, 3) := by decide +kernel
theorem dX7_aim_52 : decode cX7_aim 52 = .ok (.iconst 2, 1) := by decide +kernel
theorem dX7_aim_53 : decode cX7_aim 53 = .ok (.iload_n 1, 1) := by decide +kernel
theorem dX7_aim_54 : decode cX7_aim 54 = .ok (.imul, 1) := by decide +kernel
theorem dX7_aim_55 : decode cX7_aim 55 = .ok (.iload_n 2, 1) := by decide +kernel
theorem dX7_aim_56 : decode cX7_aim 56 = .ok (.iadd, 1) := by decide +kernel
theorem dX7_aim_57 : decode cX7_aim 57 = .ok (.iload_n 3, 1) := by decide +kernel
theorem dX7_aim_58 : decode cX7_aim 58 = .ok (.iastore, 1) := by decide +kernel
theorem dX7_aim_59 : decode cX7_aim 59 = .ok (.iload 4, 2) := by decide +kernel
theorem dX7_aim_61 : decode cX7_aim 61 = .ok (.ireturn, 1) := by decide +kernel
theorem dX7_change_0 : decode cX7_change 0 = .ok (.aload_n 0, 1) := by decide +kernel
theorem dX7_change_1 : decode cX7_change 1 = .ok (.iload_n 1, 1) := by decide +kernel
theorem dX7_change_2 : decode cX7_change 2 = .ok (.invokevirtual 169, 3) := by decide +kernel
theorem dX7_change_5 : decode cX7_change 5 = .ok (.ifCond .ne 6, 3) := by decide +kernel
theorem dX7_change_8 : decode cX7_change 8 = .ok (.bipush (-101), 2) := by decide +kernel
theorem dX7_change_10 : decode cX7_change 10 = .ok (.ireturn, 1) := by decide +kernel
theorem dX7_change_11 : decode cX7_change 11 = .ok (.iload_n 2, 1) := by decide +kernel
theorem dX7_change_12 : decode cX7_change 12 = .ok (.iconst 0, 1) := by decide +kernel
theorem dX7_change_13 : decode cX7_change 13 = .ok (.iconst 4, 1) := by decide +kernel
theorem dX7_change_14 : decode cX7_change 14 = .ok (.invokestatic 69, 3) := by decide +kernel
theorem dX7_change_17 : decode cX7_change 17 = .ok (.ifCond .ne 6, 3) := by decide +kernel
theorem dX7_change_20 : decode cX7_change 20 = .ok (.bipush (-102), 2) := by decide +kernel
theorem dX7_change_22 : decode cX7_change 22 = .ok (.ireturn, 1) := by decide +kernel
theorem dX7_change_23 : decode cX7_change 23 = .ok (.aload_n 0, 1) := by decide +kernel
theorem dX7_change_24 : decode cX7_change 24 = .ok (.getfield 7, 3) := by decide +kernel
theorem dX7_change_27 : decode cX7_change 27 = .ok (.iload_n 1, 1) := by decide +kernel
theorem dX7_change_28 : decode cX7_change 28 = .ok (.iaload, 1) := by decide +kernel
theorem dX7_change_29 : decode cX7_change 29 = .ok (.istore_n 3, 1) := by decide +kernel
theorem dX7_change_30 : decode cX7_change 30 = .ok (.aload_n 0, 1) := by decide +kernel
theorem dX7_change_31 : decode cX7_change 31 = .ok (.getfield 7, 3) := by decide +kernel
theorem dX7_change_34 : decode cX7_change 34 = .ok (.iload_n 1, 1) := by decide +kernel
theorem dX7_change_35 : decode cX7_change 35 = .ok (.iload_n 2, 1) := by decide +kernel
theorem dX7_change_36 : decode cX7_change 36 = .ok (.iastore, 1) := by decide +kernel
theorem dX7_change_37 : decode cX7_change 37 = .ok (.iload_n 3, 1) := by decide +kernel
theorem dX7_change_38 : decode cX7_change 38 = .ok (.ireturn, 1) := by decide +kernel
theorem dX7_see_0 : decode cX7_see 0 = .ok (.aload_n 0, 1) := by decide +kernel
theorem dX7_see_1 : decode cX7_see 1 = .ok (.iload_n 1, 1) := by decide +kernel
theorem dX7_see_2 : decode cX7_see 2 = .ok (.invokevirtual 169, 3) := by decide +kernel
theorem dX7_see_5 : decode cX7_see 5 = .ok (.ifCond .ne 6, 3) := by decide +kernel
theorem dX7_see_8 : decode cX7_see 8 = .ok (.bipush (-101), 2) := by decide +kernel
theorem dX7_see_10 : decode cX7_see 10 = .ok (.ireturn, 1) := by decide +kernel
theorem dX7_see_11 : decode cX7_see 11 = .ok (.iload_n 2, 1) := by decide +kernel
theorem dX7_see_12 : decode cX7_see 12 = .ok (.iconst 0, 1) := by decide +kernel
theorem dX7_see_13 : decode cX7_see 13 = .ok (.iconst 3, 1) := by decide +kernel
theorem dX7_see_14 : decode cX7_see 14 = .ok (.invokestatic 69, 3) := by decide +kernel
theorem dX7_see_17 : decode cX7_see 17 = .ok (.ifCond .ne 6, 3) := by decide +kernel
theorem dX7_see_20 : decode cX7_see 20 = .ok (.bipush (-102), 2) := by decide +kernel
theorem dX7_see_22 : decode cX7_see 22 = .ok (.ireturn, 1) := by decide +kernel
theorem dX7_see_23 : decode cX7_see 23 = .ok (.aload_n 0, 1) := by decide +kernel
theorem dX7_see_24 : decode cX7_see 24 = .ok (.getfield 99, 3) := by decide +kernel
theorem dX7_see_27 : decode cX7_see 27 = .ok (.bipush 6, 2) := by decide +kernel
theorem dX7_see_29 : decode cX7_see 29 = .ok (.if_icmp .ne 6, 3) := by decide +kernel
theorem dX7_see_32 : decode cX7_see 32 = .ok (.bipush (-104), 2) := by decide +kernel
theorem dX7_see_34 : decode cX7_see 34 = .ok (.ireturn, 1) := by decide +kernel
theorem dX7_see_35 : decode cX7_see 35 = .ok (.aload_n 0, 1) := by decide +kernel
theorem dX7_see_36 : decode cX7_see 36 = .ok (.getfield 22, 3) := by decide +kernel
theorem dX7_see_39 : decode cX7_see 39 = .ok (.aload_n 0, 1) := by decide +kernel
theorem dX7_see_40 : decode cX7_see 40 = .ok (.getfield 99, 3) := by decide +kernel
theorem dX7_see_43 : decode cX7_see 43 = .ok (.iload_n 1, 1) := by decide +kernel
theorem dX7_see_44 : decode cX7_see 44 = .ok (.iastore, 1) := by decide +kernel
theorem dX7_see_45 : decode cX7_see 45 = .ok (.aload_n 0, 1) := by decide +kernel
theorem dX7_see_46 : decode cX7_see 46 = .ok (.getfield 25, 3) := by decide +kernel
theorem dX7_see_49 : decode cX7_see 49 = .ok (.aload_n 0, 1) := by decide +kernel
theorem dX7_see_50 : decode cX7_see 50 = .ok (.getfield 99, 3) := by decide +kernel
theorem dX7_see_53 : decode cX7_see 53 = .ok (.iload_n 2, 1) := by decide +kernel
theorem dX7_see_54 : decode cX7_see 54 = .ok (.iastore, 1) := by decide +kernel
theorem dX7_see_55 : decode cX7_see 55 = .ok (.aload_n 0, 1) := by decide +kernel
theorem dX7_see_56 : decode cX7_see 56 = .ok (.getfield 28, 3) := by decide +kernel
theorem dX7_see_59 : decode cX7_see 59 = .ok (.aload_n 0, 1) := by decide +kernel
theorem dX7_see_60 : decode cX7_see 60 = .ok (.getfield 99, 3) := by decide +kernel
theorem dX7_see_63 : decode cX7_see 63 = .ok (.iload_n 3, 1) := by decide +kernel
theorem dX7_see_64 : decode cX7_see 64 = .ok (.bastore, 1) := by decide +kernel
theorem dX7_see_65 : decode cX7_see 65 = .ok (.aload_n 0, 1) := by decide +kernel
theorem dX7_see_66 : decode cX7_see 66 = .ok (.dup, 1) := by decide +kernel
theorem dX7_see_67 : decode cX7_see 67 = .ok (.getfield 99, 3) := by decide +kernel
theorem dX7_see_70 : decode cX7_see 70 = .ok (.iconst 1, 1) := by decide +kernel
theorem dX7_see_71 : decode cX7_see 71 = .ok (.iadd, 1) := by decide +kernel
theorem dX7_see_72 : decode cX7_see 72 = .ok (.putfield 99, 3) := by decide +kernel
theorem dX7_see_75 : decode cX7_see 75 = .ok (.aload_n 0, 1) := by decide +kernel
theorem dX7_see_76 : decode cX7_see 76 = .ok (.getfield 99, 3) := by decide +kernel
theorem dX7_see_79 : decode cX7_see 79 = .ok (.ireturn, 1) := by decide +kernel
theorem dX7_forget_0 : decode cX7_forget 0 = .ok (.aload_n 0, 1) := by decide +kernel
theorem dX7_forget_1 : decode cX7_forget 1 = .ok (.getfield 99, 3) := by decide +kernel
theorem dX7_forget_4 : decode cX7_forget 4 = .ok (.istore_n 1, 1) := by decide +kernel
theorem dX7_forget_5 : decode cX7_forget 5 = .ok (.aload_n 0, 1) := by decide +kernel
theorem dX7_forget_6 : decode cX7_forget 6 = .ok (.iconst 0, 1) := by decide +kernel
theorem dX7_forget_7 : decode cX7_forget 7 = .ok (.putfield 99, 3) := by decide +kernel
theorem dX7_forget_10 : decode cX7_forget 10 = .ok (.iload_n 1, 1) := by decide +kernel
theorem dX7_forget_11 : decode cX7_forget 11 = .ok (.ireturn, 1) := by decide +kernel
theorem dX7_drawOf_0 : decode cX7_drawOf 0 = .ok (.aload_n 0, 1) := by decide +kernel
theorem dX7_drawOf_1 : decode cX7_drawOf 1 = .ok (.ldc2_w 224, 3) := by decide +kernel
theorem dX7_drawOf_4 : decode cX7_drawOf 4 = .ok (.aload_n 0, 1) := by decide +kernel
theorem dX7_drawOf_5 : decode cX7_drawOf 5 = .ok (.getfield 226, 3) := by decide +kernel
theorem dX7_drawOf_8 : decode cX7_drawOf 8 = .ok (.lmul, 1) := by decide +kernel
theorem dX7_drawOf_9 : decode cX7_drawOf 9 = .ok (.ldc2_w 230, 3) := by decide +kernel
theorem dX7_drawOf_12 : decode cX7_drawOf 12 = .ok (.ladd, 1) := by decide +kernel
theorem dX7_drawOf_13 : decode cX7_drawOf 13 = .ok (.ldc2_w 232, 3) := by decide +kernel
theorem dX7_drawOf_16 : decode cX7_drawOf 16 = .ok (.lrem, 1) := by decide +kernel
theorem dX7_drawOf_17 : decode cX7_drawOf 17 = .ok (.putfield 226, 3) := by decide +kernel
theorem dX7_drawOf_20 : decode cX7_drawOf 20 = .ok (.aload_n 0, 1) := by decide +kernel
theorem dX7_drawOf_21 : decode cX7_drawOf 21 = .ok (.getfield 226, 3) := by decide +kernel
theorem dX7_drawOf_24 : decode cX7_drawOf 24 = .ok (.ldc2_w 234, 3) := by decide +kernel
theorem dX7_drawOf_27 : decode cX7_drawOf 27 = .ok (.ldiv, 1) := by decide +kernel
theorem dX7_drawOf_28 : decode cX7_drawOf 28 = .ok (.iload_n 1, 1) := by decide +kernel
theorem dX7_drawOf_29 : decode cX7_drawOf 29 = .ok (.i2l, 1) := by decide +kernel
theorem dX7_drawOf_30 : decode cX7_drawOf 30 = .ok (.lrem, 1) := by decide +kernel
theorem dX7_drawOf_31 : decode cX7_drawOf 31 = .ok (.l2i, 1) := by decide +kernel
theorem dX7_drawOf_32 : decode cX7_drawOf 32 = .ok (.ireturn, 1) := by decide +kernel
theorem dX7_drawnNow_0 : decode cX7_drawnNow 0 = .ok (.aload_n 0, 1) := by decide +kernel
theorem dX7_drawnNow_1 : decode cX7_drawnNow 1 = .ok (.iload_n 2, 1) := by decide +kernel
theorem dX7_drawnNow_2 : decode cX7_drawnNow 2 = .ok (.i2l, 1) := by decide +kernel
theorem dX7_drawnNow_3 : decode cX7_drawnNow 3 = .ok (.putfield 226, 3) := by decide +kernel
theorem dX7_drawnNow_6 : decode cX7_drawnNow 6 = .ok (.iconst 0, 1) := by decide +kernel
theorem dX7_drawnNow_7 : decode cX7_drawnNow 7 = .ok (.istore 4, 2) := by decide +kernel
theorem dX7_drawnNow_9 : decode cX7_drawnNow 9 = .ok (.iconst 0, 1) := by decide +kernel
theorem dX7_drawnNow_10 : decode cX7_drawnNow 10 = .ok (.istore 5, 2) := by decide +kernel
theorem dX7_drawnNow_12 : decode cX7_drawnNow 12 = .ok (.iconst 0, 1) := by decide +kernel
theorem dX7_drawnNow_13 : decode cX7_drawnNow 13 = .ok (.istore 6, 2) := by decide +kernel
theorem dX7_drawnNow_15 : decode cX7_drawnNow 15 = .ok (.iload 6, 2) := by decide +kernel
theorem dX7_drawnNow_17 : decode cX7_drawnNow 17 = .ok (.iload_n 1, 1) := by decide +kernel
theorem dX7_drawnNow_18 : decode cX7_drawnNow 18 = .ok (.if_icmp .ge 120, 3) := by decide +kernel
theorem dX7_drawnNow_21 : decode cX7_drawnNow 21 = .ok (.iconst 0, 1) := by decide +kernel
theorem dX7_drawnNow_22 : decode cX7_drawnNow 22 = .ok (.istore 7, 2) := by decide +kernel
theorem dX7_drawnNow_24 : decode cX7_drawnNow 24 = .ok (.iload 7, 2) := by decide +kernel
theorem dX7_drawnNow_26 : decode cX7_drawnNow 26 = .ok (.iconst 4, 1) := by decide +kernel
theorem dX7_drawnNow_27 : decode cX7_drawnNow 27 = .ok (.if_icmp .ge 36, 3) := by decide +kernel
theorem dX7_drawnNow_30 : decode cX7_drawnNow 30 = .ok (.aload_n 0, 1) := by decide +kernel
theorem dX7_drawnNow_31 : decode cX7_drawnNow 31 = .ok (.aload_n 0, 1) := by decide +kernel
theorem dX7_drawnNow_32 : decode cX7_drawnNow 32 = .ok (.getfield 96, 3) := by decide +kernel
theorem dX7_drawnNow_35 : decode cX7_drawnNow 35 = .ok (.invokevirtual 236, 3) := by decide +kernel
theorem dX7_drawnNow_38 : decode cX7_drawnNow 38 = .ok (.istore 8, 2) := by decide +kernel
theorem dX7_drawnNow_40 : decode cX7_drawnNow 40 = .ok (.aload_n 0, 1) := by decide +kernel
theorem dX7_drawnNow_41 : decode cX7_drawnNow 41 = .ok (.getfield 45, 3) := by decide +kernel
theorem dX7_drawnNow_44 : decode cX7_drawnNow 44 = .ok (.iload 7, 2) := by decide +kernel
theorem dX7_drawnNow_46 : decode cX7_drawnNow 46 = .ok (.iconst 2, 1) := by decide +kernel
theorem dX7_drawnNow_47 : decode cX7_drawnNow 47 = .ok (.iload 8, 2) := by decide +kernel
theorem dX7_drawnNow_49 : decode cX7_drawnNow 49 = .ok (.imul, 1) := by decide +kernel
theorem dX7_drawnNow_50 : decode cX7_drawnNow 50 = .ok (.aload_n 0, 1) := by decide +kernel
theorem dX7_drawnNow_51 : decode cX7_drawnNow 51 = .ok (.iconst 2, 1) := by decide +kernel
theorem dX7_drawnNow_52 : decode cX7_drawnNow 52 = .ok (.invokevirtual 236, 3) := by decide +kernel
theorem dX7_drawnNow_55 : decode cX7_drawnNow 55 = .ok (.iadd, 1) := by decide +kernel
theorem dX7_drawnNow_56 : decode cX7_drawnNow 56 = .ok (.iastore, 1) := by decide +kernel
theorem dX7_drawnNow_57 : decode cX7_drawnNow 57 = .ok (.iinc 7 1, 3) := by decide +kernel
theorem dX7_drawnNow_60 : decode cX7_drawnNow 60 = .ok (.goto (-36), 3) := by decide +kernel
theorem dX7_drawnNow_63 : decode cX7_drawnNow 63 = .ok (.aload_n 0, 1) := by decide +kernel
theorem dX7_drawnNow_64 : decode cX7_drawnNow 64 = .ok (.sipush 256, 3) := by decide +kernel
theorem dX7_drawnNow_67 : decode cX7_drawnNow 67 = .ok (.invokevirtual 236, 3) := by decide +kernel
theorem dX7_drawnNow_70 : decode cX7_drawnNow 70 = .ok (.istore 7, 2) := by decide +kernel
theorem dX7_drawnNow_72 : decode cX7_drawnNow 72 = .ok (.iload 7, 2) := by decide +kernel
theorem dX7_drawnNow_74 : decode cX7_drawnNow 74 = .ok (.istore 8, 2) := by decide +kernel
theorem dX7_drawnNow_76 : decode cX7_drawnNow 76 = .ok (.iconst 0, 1) := by decide +kernel
theorem dX7_drawnNow_77 : decode cX7_drawnNow 77 = .ok (.istore 9, 2) := by decide +kernel
theorem dX7_drawnNow_79 : decode cX7_drawnNow 79 = .ok (.iload 9, 2) := by decide +kernel
theorem dX7_drawnNow_81 : decode cX7_drawnNow 81 = .ok (.iconst 4, 1) := by decide +kernel
theorem dX7_drawnNow_82 : decode cX7_drawnNow 82 = .ok (.if_icmp .ge 26, 3) := by decide +kernel
theorem dX7_drawnNow_85 : decode cX7_drawnNow 85 = .ok (.aload_n 0, 1) := by decide +kernel
theorem dX7_drawnNow_86 : decode cX7_drawnNow 86 = .ok (.aload_n 0, 1) := by decide +kernel
theorem dX7_drawnNow_87 : decode cX7_drawnNow 87 = .ok (.getfield 45, 3) := by decide +kernel
theorem dX7_drawnNow_90 : decode cX7_drawnNow 90 = .ok (.iload 9, 2) := by decide +kernel
theorem dX7_drawnNow_92 : decode cX7_drawnNow 92 = .ok (.iaload, 1) := by decide +kernel
theorem dX7_drawnNow_93 : decode cX7_drawnNow 93 = .ok (.iload 8, 2) := by decide +kernel
theorem dX7_drawnNow_95 : decode cX7_drawnNow 95 = .ok (.bipush 8, 2) := by decide +kernel
theorem dX7_drawnNow_97 : decode cX7_drawnNow 97 = .ok (.invokevirtual 134, 3) := by decide +kernel
theorem dX7_drawnNow_100 : decode cX7_drawnNow 100 = .ok (.istore 8, 2) := by decide +kernel
theorem dX7_drawnNow_102 : decode cX7_drawnNow 102 = .ok (.iinc 9 1, 3) := by decide +kernel
theorem dX7_drawnNow_105 : decode cX7_drawnNow 105 = .ok (.goto (-26), 3) := by decide +kernel
theorem dX7_drawnNow_108 : decode cX7_drawnNow 108 = .ok (.iload 4, 2) := by decide +kernel
theorem dX7_drawnNow_110 : decode cX7_drawnNow 110 = .ok (.iload 8, 2) := by decide +kernel
theorem dX7_drawnNow_112 : decode cX7_drawnNow 112 = .ok (.iadd, 1) := by decide +kernel
theorem dX7_drawnNow_113 : decode cX7_drawnNow 113 = .ok (.istore 4, 2) := by decide +kernel
theorem dX7_drawnNow_115 : decode cX7_drawnNow 115 = .ok (.iload 5, 2) := by decide +kernel
theorem dX7_drawnNow_117 : decode cX7_drawnNow 117 = .ok (.iload 8, 2) := by decide +kernel
theorem dX7_drawnNow_119 : decode cX7_drawnNow 119 = .ok (.iload 7, 2) := by decide +kernel
theorem dX7_drawnNow_121 : decode cX7_drawnNow 121 = .ok (.if_icmp .ne 7, 3) := by decide +kernel
theorem dX7_drawnNow_124 : decode cX7_drawnNow 124 = .ok (.iconst 1, 1) := by decide +kernel
theorem dX7_drawnNow_125 : decode cX7_drawnNow 125 = .ok (.goto 4, 3) := by decide +kernel
theorem dX7_drawnNow_128 : decode cX7_drawnNow 128 = .ok (.iconst 0, 1) := by decide +kernel
theorem dX7_drawnNow_129 : decode cX7_drawnNow 129 = .ok (.iadd, 1) := by decide +kernel
theorem dX7_drawnNow_130 : decode cX7_drawnNow 130 = .ok (.istore 5, 2) := by decide +kernel
theorem dX7_drawnNow_132 : decode cX7_drawnNow 132 = .ok (.iinc 6 1, 3) := by decide +kernel
theorem dX7_drawnNow_135 : decode cX7_drawnNow 135 = .ok (.goto (-120), 3) := by decide +kernel
theorem dX7_drawnNow_138 : decode cX7_drawnNow 138 = .ok (.iload_n 3, 1) := by decide +kernel
theorem dX7_drawnNow_139 : decode cX7_drawnNow 139 = .ok (.ifCond .ne 8, 3) := by decide +kernel
theorem dX7_drawnNow_142 : decode cX7_drawnNow 142 = .ok (.iload 4, 2) := by decide +kernel
theorem dX7_drawnNow_144 : decode cX7_drawnNow 144 = .ok (.goto 18, 3) := by decide +kernel
theorem dX7_drawnNow_147 : decode cX7_drawnNow 147 = .ok (.iload_n 3, 1) := by decide +kernel
theorem dX7_drawnNow_148 : decode cX7_drawnNow 148 = .ok (.iconst 1, 1) := by decide +kernel
theorem dX7_drawnNow_149 : decode cX7_drawnNow 149 = .ok (.if_icmp .ne 8, 3) := by decide +kernel
theorem dX7_drawnNow_152 : decode cX7_drawnNow 152 = .ok (.iload 5, 2) := by decide +kernel
theorem dX7_drawnNow_154 : decode cX7_drawnNow 154 = .ok (.goto 8, 3) := by decide +kernel
theorem dX7_drawnNow_157 : decode cX7_drawnNow 157 = .ok (.aload_n 0, 1) := by decide +kernel
theorem dX7_drawnNow_158 : decode cX7_drawnNow 158 = .ok (.getfield 226, 3) := by decide +kernel
theorem dX7_drawnNow_161 : decode cX7_drawnNow 161 = .ok (.l2i, 1) := by decide +kernel
theorem dX7_drawnNow_162 : decode cX7_drawnNow 162 = .ok (.ireturn, 1) := by decide +kernel
theorem dX7_drawn_0 : decode cX7_drawn 0 = .ok (.iload_n 1, 1) := by decide +kernel
theorem dX7_drawn_1 : decode cX7_drawn 1 = .ok (.iconst 1, 1) := by decide +kernel
theorem dX7_drawn_2 : decode cX7_drawn 2 = .ok (.bipush 30, 2) := by decide +kernel
theorem dX7_drawn_4 : decode cX7_drawn 4 = .ok (.invokestatic 69, 3) := by decide +kernel
theorem dX7_drawn_7 : decode cX7_drawn 7 = .ok (.ifCond .eq 16, 3) := by decide +kernel
theorem dX7_drawn_10 : decode cX7_drawn 10 = .ok (.iload_n 2, 1) := by decide +kernel
theorem dX7_drawn_11 : decode cX7_drawn 11 = .ok (.ifCond .lt 12, 3) := by decide +kernel
theorem dX7_drawn_14 : decode cX7_drawn 14 = .ok (.iload_n 3, 1) := by decide +kernel
theorem dX7_drawn_15 : decode cX7_drawn 15 = .ok (.iconst 0, 1) := by decide +kernel
theorem dX7_drawn_16 : decode cX7_drawn 16 = .ok (.iconst 2, 1) := by decide +kernel
theorem dX7_drawn_17 : decode cX7_drawn 17 = .ok (.invokestatic 69, 3) := by decide +kernel
theorem dX7_drawn_20 : decode cX7_drawn 20 = .ok (.ifCond .ne 6, 3) := by decide +kernel
theorem dX7_drawn_23 : decode cX7_drawn 23 = .ok (.bipush (-102), 2) := by decide +kernel
theorem dX7_drawn_25 : decode cX7_drawn 25 = .ok (.ireturn, 1) := by decide +kernel
theorem dX7_drawn_26 : decode cX7_drawn 26 = .ok (.aload_n 0, 1) := by decide +kernel
theorem dX7_drawn_27 : decode cX7_drawn 27 = .ok (.getfield 96, 3) := by decide +kernel
theorem dX7_drawn_30 : decode cX7_drawn 30 = .ok (.ifCond .le 13, 3) := by decide +kernel
theorem dX7_drawn_33 : decode cX7_drawn 33 = .ok (.aload_n 0, 1) := by decide +kernel
theorem dX7_drawn_34 : decode cX7_drawn 34 = .ok (.iload_n 1, 1) := by decide +kernel
theorem dX7_drawn_35 : decode cX7_drawn 35 = .ok (.iload_n 2, 1) := by decide +kernel
theorem dX7_drawn_36 : decode cX7_drawn 36 = .ok (.iload_n 3, 1) := by decide +kernel
theorem dX7_drawn_37 : decode cX7_drawn 37 = .ok (.invokevirtual 239, 3) := by decide +kernel
theorem dX7_drawn_40 : decode cX7_drawn 40 = .ok (.goto 5, 3) := by decide +kernel
theorem dX7_drawn_43 : decode cX7_drawn 43 = .ok (.bipush (-103), 2) := by decide +kernel
theorem dX7_drawn_45 : decode cX7_drawn 45 = .ok (.ireturn, 1) := by decide +kernel
theorem dX7_copy_0 : decode cX7_copy 0 = .ok (.iconst 0, 1) := by decide +kernel
theorem dX7_copy_1 : decode cX7_copy 1 = .ok (.istore_n 3, 1) := by decide +kernel
theorem dX7_copy_2 : decode cX7_copy 2 = .ok (.iload_n 3, 1) := by decide +kernel
theorem dX7_copy_3 : decode cX7_copy 3 = .ok (.iload_n 2, 1) := by decide +kernel
theorem dX7_copy_4 : decode cX7_copy 4 = .ok (.if_icmp .ge 15, 3) := by decide +kernel
theorem dX7_copy_7 : decode cX7_copy 7 = .ok (.aload_n 1, 1) := by decide +kernel
theorem dX7_copy_8 : decode cX7_copy 8 = .ok (.iload_n 3, 1) := by decide +kernel
theorem dX7_copy_9 : decode cX7_copy 9 = .ok (.aload_n 0, 1) := by decide +kernel
theorem dX7_copy_10 : decode cX7_copy 10 = .ok (.iload_n 3, 1) := by decide +kernel
theorem dX7_copy_11 : decode cX7_copy 11 = .ok (.iaload, 1) := by decide +kernel
theorem dX7_copy_12 : decode cX7_copy 12 = .ok (.iastore, 1) := by decide +kernel
theorem dX7_copy_13 : decode cX7_copy 13 = .ok (.iinc 3 1, 3) := by decide +kernel
theorem dX7_copy_16 : decode cX7_copy 16 = .ok (.goto (-14), 3) := by decide +kernel
theorem dX7_copy_19 : decode cX7_copy 19 = .ok (.return_, 1) := by decide +kernel
theorem dX7_image_0 : decode cX7_image 0 = .ok (.aload_n 0, 1) := by decide +kernel
theorem dX7_image_1 : decode cX7_image 1 = .ok (.getfield 96, 3) := by decide +kernel
theorem dX7_image_4 : decode cX7_image 4 = .ok (.ifCond .ne 6, 3) := by decide +kernel
theorem dX7_image_7 : decode cX7_image 7 = .ok (.bipush (-103), 2) := by decide +kernel
theorem dX7_image_9 : decode cX7_image 9 = .ok (.ireturn, 1) := by decide +kernel
theorem dX7_image_10 : decode cX7_image 10 = .ok (.aload_n 0, 1) := by decide +kernel
theorem dX7_image_11 : decode cX7_image 11 = .ok (.aload_n 0, 1) := by decide +kernel
theorem dX7_image_12 : decode cX7_image 12 = .ok (.getfield 102, 3) := by decide +kernel
theorem dX7_image_15 : decode cX7_image 15 = .ok (.putfield 242, 3) := by decide +kernel
theorem dX7_image_18 : decode cX7_image 18 = .ok (.aload_n 0, 1) := by decide +kernel
theorem dX7_image_19 : decode cX7_image 19 = .ok (.aload_n 0, 1) := by decide +kernel
theorem dX7_image_20 : decode cX7_image 20 = .ok (.getfield 96, 3) := by decide +kernel
theorem dX7_image_23 : decode cX7_image 23 = .ok (.putfield 245, 3) := by decide +kernel
theorem dX7_image_26 : decode cX7_image 26 = .ok (.aload_n 0, 1) := by decide +kernel
theorem dX7_image_27 : decode cX7_image 27 = .ok (.aload_n 0, 1) := by decide +kernel
theorem dX7_image_28 : decode cX7_image 28 = .ok (.getfield 99, 3) := by decide +kernel
theorem dX7_image_31 : decode cX7_image 31 = .ok (.putfield 248, 3) := by decide +kernel
theorem dX7_image_34 : decode cX7_image 34 = .ok (.aload_n 0, 1) := by decide +kernel
theorem dX7_image_35 : decode cX7_image 35 = .ok (.getfield 7, 3) := by decide +kernel
theorem dX7_image_38 : decode cX7_image 38 = .ok (.aload_n 0, 1) := by decide +kernel
theorem dX7_image_39 : decode cX7_image 39 = .ok (.getfield 48, 3) := by decide +kernel
theorem dX7_image_42 : decode cX7_image 42 = .ok (.bipush 6, 2) := by decide +kernel
theorem dX7_image_44 : decode cX7_image 44 = .ok (.invokestatic 251, 3) := by decide +kernel
theorem dX7_image_47 : decode cX7_image 47 = .ok (.aload_n 0, 1) := by decide +kernel
theorem dX7_image_48 : decode cX7_image 48 = .ok (.getfield 13, 3) := by decide +kernel
theorem dX7_image_51 : decode cX7_image 51 = .ok (.aload_n 0, 1) := by decide +kernel
theorem dX7_image_52 : decode cX7_image 52 = .ok (.getfield 51, 3) := by decide +kernel
theorem dX7_image_55 : decode cX7_image 55 = .ok (.bipush 12, 2) := by decide +kernel
theorem dX7_image_57 : decode cX7_image 57 = .ok (.invokestatic 251, 3) := by decide +kernel
theorem dX7_image_60 : decode cX7_image 60 = .ok (.aload_n 0, 1) := by decide +kernel
theorem dX7_image_61 : decode cX7_image 61 = .ok (.getfield 16, 3) := by decide +kernel
theorem dX7_image_64 : decode cX7_image 64 = .ok (.aload_n 0, 1) := by decide +kernel
theorem dX7_image_65 : decode cX7_image 65 = .ok (.getfield 54, 3) := by decide +kernel
theorem dX7_image_68 : decode cX7_image 68 = .ok (.iconst 3, 1) := by decide +kernel
theorem dX7_image_69 : decode cX7_image 69 = .ok (.invokestatic 251, 3) := by decide +kernel
theorem dX7_image_72 : decode cX7_image 72 = .ok (.aload_n 0, 1) := by decide +kernel
theorem dX7_image_73 : decode cX7_image 73 = .ok (.getfield 19, 3) := by decide +kernel
theorem dX7_image_76 : decode cX7_image 76 = .ok (.aload_n 0, 1) := by decide +kernel
theorem dX7_image_77 : decode cX7_image 77 = .ok (.getfield 57, 3) := by decide +kernel
theorem dX7_image_80 : decode cX7_image 80 = .ok (.bipush 48, 2) := by decide +kernel
theorem dX7_image_82 : decode cX7_image 82 = .ok (.invokestatic 251, 3) := by decide +kernel
theorem dX7_image_85 : decode cX7_image 85 = .ok (.aload_n 0, 1) := by decide +kernel
theorem dX7_image_86 : decode cX7_image 86 = .ok (.getfield 22, 3) := by decide +kernel
theorem dX7_image_89 : decode cX7_image 89 = .ok (.aload_n 0, 1) := by decide +kernel
theorem dX7_image_90 : decode cX7_image 90 = .ok (.getfield 60, 3) := by decide +kernel
theorem dX7_image_93 : decode cX7_image 93 = .ok (.bipush 6, 2) := by decide +kernel
theorem dX7_image_95 : decode cX7_image 95 = .ok (.invokestatic 251, 3) := by decide +kernel
theorem dX7_image_98 : decode cX7_image 98 = .ok (.aload_n 0, 1) := by decide +kernel
theorem dX7_image_99 : decode cX7_image 99 = .ok (.getfield 25, 3) := by decide +kernel
theorem dX7_image_102 : decode cX7_image 102 = .ok (.aload_n 0, 1) := by decide +kernel
theorem dX7_image_103 : decode cX7_image 103 = .ok (.getfield 63, 3) := by decide +kernel
theorem dX7_image_106 : decode cX7_image 106 = .ok (.bipush 6, 2) := by decide +kernel
theorem dX7_image_108 : decode cX7_image 108 = .ok (.invokestatic 251, 3) := by decide +kernel
theorem dX7_image_111 : decode cX7_image 111 = .ok (.iconst 0, 1) := by decide +kernel
theorem dX7_image_112 : decode cX7_image 112 = .ok (.istore_n 1, 1) := by decide +kernel
theorem dX7_image_113 : decode cX7_image 113 = .ok (.iload_n 1, 1) := by decide +kernel
theorem dX7_image_114 : decode cX7_image 114 = .ok (.bipush 6, 2) := by decide +kernel
theorem dX7_image_116 : decode cX7_image 116 = .ok (.if_icmp .ge 21, 3) := by decide +kernel
theorem dX7_image_119 : decode cX7_image 119 = .ok (.aload_n 0, 1) := by decide +kernel
theorem dX7_image_120 : decode cX7_image 120 = .ok (.getfield 66, 3) := by decide +kernel
theorem dX7_image_123 : decode cX7_image 123 = .ok (.iload_n 1, 1) := by decide +kernel
theorem dX7_image_124 : decode cX7_image 124 = .ok (.aload_n 0, 1) := by decide +kernel
theorem dX7_image_125 : decode cX7_image 125 = .ok (.getfield 28, 3) := by decide +kernel
theorem dX7_image_128 : decode cX7_image 128 = .ok (.iload_n 1, 1) := by decide +kernel
theorem dX7_image_129 : decode cX7_image 129 = .ok (.baload, 1) := by decide +kernel
theorem dX7_image_130 : decode cX7_image 130 = .ok (.bastore, 1) := by decide +kernel
theorem dX7_image_131 : decode cX7_image 131 = .ok (.iinc 1 1, 3) := by decide +kernel
theorem dX7_image_134 : decode cX7_image 134 = .ok (.goto (-21), 3) := by decide +kernel
theorem dX7_image_137 : decode cX7_image 137 = .ok (.aload_n 0, 1) := by decide +kernel
theorem dX7_image_138 : decode cX7_image 138 = .ok (.getfield 96, 3) := by decide +kernel
theorem dX7_image_141 : decode cX7_image 141 = .ok (.ireturn, 1) := by decide +kernel
theorem dX7_restore_0 : decode cX7_restore 0 = .ok (.aload_n 0, 1) := by decide +kernel
theorem dX7_restore_1 : decode cX7_restore 1 = .ok (.getfield 242, 3) := by decide +kernel
theorem dX7_restore_4 : decode cX7_restore 4 = .ok (.ifCond .eq 14, 3) := by decide +kernel
theorem dX7_restore_7 : decode cX7_restore 7 = .ok (.aload_n 0, 1) := by decide +kernel
theorem dX7_restore_8 : decode cX7_restore 8 = .ok (.getfield 242, 3) := by decide +kernel
theorem dX7_restore_11 : decode cX7_restore 11 = .ok (.aload_n 0, 1) := by decide +kernel
theorem dX7_restore_12 : decode cX7_restore 12 = .ok (.getfield 102, 3) := by decide +kernel
theorem dX7_restore_15 : decode cX7_restore 15 = .ok (.if_icmp .eq 6, 3) := by decide +kernel
theorem dX7_restore_18 : decode cX7_restore 18 = .ok (.bipush (-103), 2) := by decide +kernel
theorem dX7_restore_20 : decode cX7_restore 20 = .ok (.ireturn, 1) := by decide +kernel
theorem dX7_restore_21 : decode cX7_restore 21 = .ok (.aload_n 0, 1) := by decide +kernel
theorem dX7_restore_22 : decode cX7_restore 22 = .ok (.aload_n 0, 1) := by decide +kernel
theorem dX7_restore_23 : decode cX7_restore 23 = .ok (.getfield 245, 3) := by decide +kernel
theorem dX7_restore_26 : decode cX7_restore 26 = .ok (.putfield 96, 3) := by decide +kernel
theorem dX7_restore_29 : decode cX7_restore 29 = .ok (.aload_n 0, 1) := by decide +kernel
theorem dX7_restore_30 : decode cX7_restore 30 = .ok (.aload_n 0, 1) := by decide +kernel
theorem dX7_restore_31 : decode cX7_restore 31 = .ok (.getfield 248, 3) := by decide +kernel
theorem dX7_restore_34 : decode cX7_restore 34 = .ok (.putfield 99, 3) := by decide +kernel
theorem dX7_restore_37 : decode cX7_restore 37 = .ok (.aload_n 0, 1) := by decide +kernel
theorem dX7_restore_38 : decode cX7_restore 38 = .ok (.getfield 48, 3) := by decide +kernel
theorem dX7_restore_41 : decode cX7_restore 41 = .ok (.aload_n 0, 1) := by decide +kernel
theorem dX7_restore_42 : decode cX7_restore 42 = .ok (.getfield 7, 3) := by decide +kernel
theorem dX7_restore_45 : decode cX7_restore 45 = .ok (.bipush 6, 2) := by decide +kernel
theorem dX7_restore_47 : decode cX7_restore 47 = .ok (.invokestatic 251, 3) := by decide +kernel
theorem dX7_restore_50 : decode cX7_restore 50 = .ok (.aload_n 0, 1) := by decide +kernel
theorem dX7_restore_51 : decode cX7_restore 51 = .ok (.getfield 51, 3) := by decide +kernel
theorem dX7_restore_54 : decode cX7_restore 54 = .ok (.aload_n 0, 1) := by decide +kernel
theorem dX7_restore_55 : decode cX7_restore 55 = .ok (.getfield 13, 3) := by decide +kernel
theorem dX7_restore_58 : decode cX7_restore 58 = .ok (.bipush 12, 2) := by decide +kernel
theorem dX7_restore_60 : decode cX7_restore 60 = .ok (.invokestatic 251, 3) := by decide +kernel
theorem dX7_restore_63 : decode cX7_restore 63 = .ok (.aload_n 0, 1) := by decide +kernel
theorem dX7_restore_64 : decode cX7_restore 64 = .ok (.getfield 54, 3) := by decide +kernel
theorem dX7_restore_67 : decode cX7_restore 67 = .ok (.aload_n 0, 1) := by decide +kernel
theorem dX7_restore_68 : decode cX7_restore 68 = .ok (.getfield 16, 3) := by decide +kernel
theorem dX7_restore_71 : decode cX7_restore 71 = .ok (.iconst 3, 1) := by decide +kernel
theorem dX7_restore_72 : decode cX7_restore 72 = .ok (.invokestatic 251, 3) := by decide +kernel
theorem dX7_restore_75 : decode cX7_restore 75 = .ok (.aload_n 0, 1) := by decide +kernel
theorem dX7_restore_76 : decode cX7_restore 76 = .ok (.getfield 57, 3) := by decide +kernel
theorem dX7_restore_79 : decode cX7_restore 79 = .ok (.aload_n 0, 1) := by decide +kernel
theorem dX7_restore_80 : decode cX7_restore 80 = .ok (.getfield 19, 3) := by decide +kernel
theorem dX7_restore_83 : decode cX7_restore 83 = .ok (.bipush 48, 2) := by decide +kernel
theorem dX7_restore_85 : decode cX7_restore 85 = .ok (.invokestatic 251, 3) := by decide +kernel
theorem dX7_restore_88 : decode cX7_restore 88 = .ok (.aload_n 0, 1) := by decide +kernel
theorem dX7_restore_89 : decode cX7_restore 89 = .ok (.getfield 60, 3) := by decide +kernel
theorem dX7_restore_92 : decode cX7_restore 92 = .ok (.aload_n 0, 1) := by decide +kernel
theorem dX7_restore_93 : decode cX7_restore 93 = .ok (.getfield 22, 3) := by decide +kernel
theorem dX7_restore_96 : decode cX7_restore 96 = .ok (.bipush 6, 2) := by decide +kernel
theorem dX7_restore_98 : decode cX7_restore 98 = .ok (.invokestatic 251, 3) := by decide +kernel
theorem dX7_restore_101 : decode cX7_restore 101 = .ok (.aload_n 0, 1) := by decide +kernel
theorem dX7_restore_102 : decode cX7_restore 102 = .ok (.getfield 63, 3) := by decide +kernel
theorem dX7_restore_105 : decode cX7_restore 105 = .ok (.aload_n 0, 1) := by decide +kernel
theorem dX7_restore_106 : decode cX7_restore 106 = .ok (.getfield 25, 3) := by decide +kernel
theorem dX7_restore_109 : decode cX7_restore 109 = .ok (.bipush 6, 2) := by decide +kernel
theorem dX7_restore_111 : decode cX7_restore 111 = .ok (.invokestatic 251, 3) := by decide +kernel
theorem dX7_restore_114 : decode cX7_restore 114 = .ok (.iconst 0, 1) := by decide +kernel
theorem dX7_restore_115 : decode cX7_restore 115 = .ok (.istore_n 1, 1) := by decide +kernel
theorem dX7_restore_116 : decode cX7_restore 116 = .ok (.iload_n 1, 1) := by decide +kernel
theorem dX7_restore_117 : decode cX7_restore 117 = .ok (.bipush 6, 2) := by decide +kernel
theorem dX7_restore_119 : decode cX7_restore 119 = .ok (.if_icmp .ge 21, 3) := by decide +kernel
theorem dX7_restore_122 : decode cX7_restore 122 = .ok (.aload_n 0, 1) := by decide +kernel
theorem dX7_restore_123 : decode cX7_restore 123 = .ok (.getfield 28, 3) := by decide +kernel
theorem dX7_restore_126 : decode cX7_restore 126 = .ok (.iload_n 1, 1) := by decide +kernel
theorem dX7_restore_127 : decode cX7_restore 127 = .ok (.aload_n 0, 1) := by decide +kernel
theorem dX7_restore_128 : decode cX7_restore 128 = .ok (.getfield 66, 3) := by decide +kernel
theorem dX7_restore_131 : decode cX7_restore 131 = .ok (.iload_n 1, 1) := by decide +kernel
theorem dX7_restore_132 : decode cX7_restore 132 = .ok (.baload, 1) := by decide +kernel
theorem dX7_restore_133 : decode cX7_restore 133 = .ok (.bastore, 1) := by decide +kernel
theorem dX7_restore_134 : decode cX7_restore 134 = .ok (.iinc 1 1, 3) := by decide +kernel
theorem dX7_restore_137 : decode cX7_restore 137 = .ok (.goto (-21), 3) := by decide +kernel
theorem dX7_restore_140 : decode cX7_restore 140 = .ok (.aload_n 0, 1) := by decide +kernel
theorem dX7_restore_141 : decode cX7_restore 141 = .ok (.getfield 96, 3) := by decide +kernel
theorem dX7_restore_144 : decode cX7_restore 144 = .ok (.ireturn, 1) := by decide +kernel
theorem dX7_classes_0 : decode cX7_classes 0 = .ok (.iconst 0, 1) := by decide +kernel
theorem dX7_classes_1 : decode cX7_classes 1 = .ok (.istore_n 1, 1) := by decide +kernel
theorem dX7_classes_2 : decode cX7_classes 2 = .ok (.iconst 0, 1) := by decide +kernel
theorem dX7_classes_3 : decode cX7_classes 3 = .ok (.istore_n 2, 1) := by decide +kernel
theorem dX7_classes_4 : decode cX7_classes 4 = .ok (.iload_n 2, 1) := by decide +kernel
theorem dX7_classes_5 : decode cX7_classes 5 = .ok (.aload_n 0, 1) := by decide +kernel
theorem dX7_classes_6 : decode cX7_classes 6 = .ok (.getfield 96, 3) := by decide +kernel
theorem dX7_classes_9 : decode cX7_classes 9 = .ok (.if_icmp .ge 26, 3) := by decide +kernel
theorem dX7_classes_12 : decode cX7_classes 12 = .ok (.iload_n 1, 1) := by decide +kernel
theorem dX7_classes_13 : decode cX7_classes 13 = .ok (.aload_n 0, 1) := by decide +kernel
theorem dX7_classes_14 : decode cX7_classes 14 = .ok (.iload_n 2, 1) := by decide +kernel
theorem dX7_classes_15 : decode cX7_classes 15 = .ok (.invokevirtual 163, 3) := by decide +kernel
theorem dX7_classes_18 : decode cX7_classes 18 = .ok (.iload_n 2, 1) := by decide +kernel
theorem dX7_classes_19 : decode cX7_classes 19 = .ok (.if_icmp .ne 7, 3) := by decide +kernel
theorem dX7_classes_22 : decode cX7_classes 22 = .ok (.iconst 1, 1) := by decide +kernel
theorem dX7_classes_23 : decode cX7_classes 23 = .ok (.goto 4, 3) := by decide +kernel
theorem dX7_classes_26 : decode cX7_classes 26 = .ok (.iconst 0, 1) := by decide +kernel
theorem dX7_classes_27 : decode cX7_classes 27 = .ok (.iadd, 1) := by decide +kernel
theorem dX7_classes_28 : decode cX7_classes 28 = .ok (.istore_n 1, 1) := by decide +kernel
theorem dX7_classes_29 : decode cX7_classes 29 = .ok (.iinc 2 1, 3) := by decide +kernel
theorem dX7_classes_32 : decode cX7_classes 32 = .ok (.goto (-28), 3) := by decide +kernel
theorem dX7_classes_35 : decode cX7_classes 35 = .ok (.iload_n 1, 1) := by decide +kernel
theorem dX7_classes_36 : decode cX7_classes 36 = .ok (.ireturn, 1) := by decide +kernel
theorem dX7_core_0 : decode cX7_core 0 = .ok (.iconst 0, 1) := by decide +kernel
theorem dX7_core_1 : decode cX7_core 1 = .ok (.istore_n 1, 1) := by decide +kernel
theorem dX7_core_2 : decode cX7_core 2 = .ok (.iconst 0, 1) := by decide +kernel
theorem dX7_core_3 : decode cX7_core 3 = .ok (.istore_n 2, 1) := by decide +kernel
theorem dX7_core_4 : decode cX7_core 4 = .ok (.iload_n 2, 1) := by decide +kernel
theorem dX7_core_5 : decode cX7_core 5 = .ok (.aload_n 0, 1) := by decide +kernel
theorem dX7_core_6 : decode cX7_core 6 = .ok (.getfield 96, 3) := by decide +kernel
theorem dX7_core_9 : decode cX7_core 9 = .ok (.if_icmp .ge 29, 3) := by decide +kernel
theorem dX7_core_12 : decode cX7_core 12 = .ok (.iload_n 1, 1) := by decide +kernel
theorem dX7_core_13 : decode cX7_core 13 = .ok (.aload_n 0, 1) := by decide +kernel
theorem dX7_core_14 : decode cX7_core 14 = .ok (.iload_n 2, 1) := by decide +kernel
theorem dX7_core_15 : decode cX7_core 15 = .ok (.invokevirtual 160, 3) := by decide +kernel
theorem dX7_core_18 : decode cX7_core 18 = .ok (.iload_n 2, 1) := by decide +kernel
theorem dX7_core_19 : decode cX7_core 19 = .ok (.invokestatic 144, 3) := by decide +kernel
theorem dX7_core_22 : decode cX7_core 22 = .ok (.ifCond .eq 7, 3) := by decide +kernel
theorem dX7_core_25 : decode cX7_core 25 = .ok (.iconst 1, 1) := by decide +kernel
theorem dX7_core_26 : decode cX7_core 26 = .ok (.goto 4, 3) := by decide +kernel
theorem dX7_core_29 : decode cX7_core 29 = .ok (.iconst 0, 1) := by decide +kernel
theorem dX7_core_30 : decode cX7_core 30 = .ok (.iadd, 1) := by decide +kernel
theorem dX7_core_31 : decode cX7_core 31 = .ok (.istore_n 1, 1) := by decide +kernel
theorem dX7_core_32 : decode cX7_core 32 = .ok (.iinc 2 1, 3) := by decide +kernel
theorem dX7_core_35 : decode cX7_core 35 = .ok (.goto (-31), 3) := by decide +kernel
theorem dX7_core_38 : decode cX7_core 38 = .ok (.iload_n 1, 1) := by decide +kernel
theorem dX7_core_39 : decode cX7_core 39 = .ok (.ireturn, 1) := by decide +kernel
theorem dX7_howMany_0 : decode cX7_howMany 0 = .ok (.iload_n 1, 1) := by decide +kernel
theorem dX7_howMany_1 : decode cX7_howMany 1 = .ok (.tableswitch 94 0 6 #[43, 48, 53, 58, 79, 84, 89], 43) := by decide +kernel
theorem dX7_howMany_44 : decode cX7_howMany 44 = .ok (.aload_n 0, 1) := by decide +kernel
theorem dX7_howMany_45 : decode cX7_howMany 45 = .ok (.getfield 96, 3) := by decide +kernel
theorem dX7_howMany_48 : decode cX7_howMany 48 = .ok (.ireturn, 1) := by decide +kernel
theorem dX7_howMany_49 : decode cX7_howMany 49 = .ok (.aload_n 0, 1) := by decide +kernel
theorem dX7_howMany_50 : decode cX7_howMany 50 = .ok (.invokevirtual 255, 3) := by decide +kernel
theorem dX7_howMany_53 : decode cX7_howMany 53 = .ok (.ireturn, 1) := by decide +kernel
theorem dX7_howMany_54 : decode cX7_howMany 54 = .ok (.aload_n 0, 1) := by decide +kernel
theorem dX7_howMany_55 : decode cX7_howMany 55 = .ok (.invokevirtual 258, 3) := by decide +kernel
theorem dX7_howMany_58 : decode cX7_howMany 58 = .ok (.ireturn, 1) := by decide +kernel
theorem dX7_howMany_59 : decode cX7_howMany 59 = .ok (.aload_n 0, 1) := by decide +kernel
theorem dX7_howMany_60 : decode cX7_howMany 60 = .ok (.getfield 16, 3) := by decide +kernel
theorem dX7_howMany_63 : decode cX7_howMany 63 = .ok (.iconst 0, 1) := by decide +kernel
theorem dX7_howMany_64 : decode cX7_howMany 64 = .ok (.iaload, 1) := by decide +kernel
theorem dX7_howMany_65 : decode cX7_howMany 65 = .ok (.aload_n 0, 1) := by decide +kernel
theorem dX7_howMany_66 : decode cX7_howMany 66 = .ok (.getfield 16, 3) := by decide +kernel
theorem dX7_howMany_69 : decode cX7_howMany 69 = .ok (.iconst 1, 1) := by decide +kernel
theorem dX7_howMany_70 : decode cX7_howMany 70 = .ok (.iaload, 1) := by decide +kernel
theorem dX7_howMany_71 : decode cX7_howMany 71 = .ok (.iadd, 1) := by decide +kernel
theorem dX7_howMany_72 : decode cX7_howMany 72 = .ok (.aload_n 0, 1) := by decide +kernel
theorem dX7_howMany_73 : decode cX7_howMany 73 = .ok (.getfield 16, 3) := by decide +kernel
theorem dX7_howMany_76 : decode cX7_howMany 76 = .ok (.iconst 2, 1) := by decide +kernel
theorem dX7_howMany_77 : decode cX7_howMany 77 = .ok (.iaload, 1) := by decide +kernel
theorem dX7_howMany_78 : decode cX7_howMany 78 = .ok (.iadd, 1) := by decide +kernel
theorem dX7_howMany_79 : decode cX7_howMany 79 = .ok (.ireturn, 1) := by decide +kernel
theorem dX7_howMany_80 : decode cX7_howMany 80 = .ok (.aload_n 0, 1) := by decide +kernel
theorem dX7_howMany_81 : decode cX7_howMany 81 = .ok (.getfield 99, 3) := by decide +kernel
theorem dX7_howMany_84 : decode cX7_howMany 84 = .ok (.ireturn, 1) := by decide +kernel
theorem dX7_howMany_85 : decode cX7_howMany 85 = .ok (.aload_n 0, 1) := by decide +kernel
theorem dX7_howMany_86 : decode cX7_howMany 86 = .ok (.getfield 73, 3) := by decide +kernel
theorem dX7_howMany_89 : decode cX7_howMany 89 = .ok (.ireturn, 1) := by decide +kernel
theorem dX7_howMany_90 : decode cX7_howMany 90 = .ok (.aload_n 0, 1) := by decide +kernel
theorem dX7_howMany_91 : decode cX7_howMany 91 = .ok (.getfield 102, 3) := by decide +kernel
theorem dX7_howMany_94 : decode cX7_howMany 94 = .ok (.ireturn, 1) := by decide +kernel
theorem dX7_howMany_95 : decode cX7_howMany 95 = .ok (.bipush (-102), 2) := by decide +kernel
theorem dX7_howMany_97 : decode cX7_howMany 97 = .ok (.ireturn, 1) := by decide +kernel
theorem dX7_count_0 : decode cX7_count 0 = .ok (.aload_n 0, 1) := by decide +kernel
theorem dX7_count_1 : decode cX7_count 1 = .ok (.iload_n 1, 1) := by decide +kernel
theorem dX7_count_2 : decode cX7_count 2 = .ok (.invokevirtual 261, 3) := by decide +kernel
theorem dX7_count_5 : decode cX7_count 5 = .ok (.ireturn, 1) := by decide +kernel
theorem dX7_mix_0 : decode cX7_mix 0 = .ok (.aload_n 0, 1) := by decide +kernel
theorem dX7_mix_1 : decode cX7_mix 1 = .ok (.ldc2_w 264, 3) := by decide +kernel
theorem dX7_mix_4 : decode cX7_mix 4 = .ok (.aload_n 0, 1) := by decide +kernel
theorem dX7_mix_5 : decode cX7_mix 5 = .ok (.getfield 266, 3) := by decide +kernel
theorem dX7_mix_8 : decode cX7_mix 8 = .ok (.lmul, 1) := by decide +kernel
theorem dX7_mix_9 : decode cX7_mix 9 = .ok (.lload_n 1, 1) := by decide +kernel
theorem dX7_mix_10 : decode cX7_mix 10 = .ok (.ladd, 1) := by decide +kernel
theorem dX7_mix_11 : decode cX7_mix 11 = .ok (.putfield 266, 3) := by decide +kernel
theorem dX7_mix_14 : decode cX7_mix 14 = .ok (.return_, 1) := by decide +kernel
theorem dX7_mixWord_0 : decode cX7_mixWord 0 = .ok (.iconst 0, 1) := by decide +kernel
theorem dX7_mixWord_1 : decode cX7_mixWord 1 = .ok (.istore_n 2, 1) := by decide +kernel
theorem dX7_mixWord_2 : decode cX7_mixWord 2 = .ok (.iload_n 2, 1) := by decide +kernel
theorem dX7_mixWord_3 : decode cX7_mixWord 3 = .ok (.aload_n 0, 1) := by decide +kernel
theorem dX7_mixWord_4 : decode cX7_mixWord 4 = .ok (.getfield 16, 3) := by decide +kernel
theorem dX7_mixWord_7 : decode cX7_mixWord 7 = .ok (.iload_n 1, 1) := by decide +kernel
theorem dX7_mixWord_8 : decode cX7_mixWord 8 = .ok (.iaload, 1) := by decide +kernel
theorem dX7_mixWord_9 : decode cX7_mixWord 9 = .ok (.if_icmp .ge 28, 3) := by decide +kernel
theorem dX7_mixWord_12 : decode cX7_mixWord 12 = .ok (.aload_n 0, 1) := by decide +kernel
theorem dX7_mixWord_13 : decode cX7_mixWord 13 = .ok (.aload_n 0, 1) := by decide +kernel
theorem dX7_mixWord_14 : decode cX7_mixWord 14 = .ok (.getfield 19, 3) := by decide +kernel
theorem dX7_mixWord_17 : decode cX7_mixWord 17 = .ok (.bipush 16, 2) := by decide +kernel
theorem dX7_mixWord_19 : decode cX7_mixWord 19 = .ok (.iload_n 1, 1) := by decide +kernel
theorem dX7_mixWord_20 : decode cX7_mixWord 20 = .ok (.imul, 1) := by decide +kernel
theorem dX7_mixWord_21 : decode cX7_mixWord 21 = .ok (.iload_n 2, 1) := by decide +kernel
theorem dX7_mixWord_22 : decode cX7_mixWord 22 = .ok (.iadd, 1) := by decide +kernel
theorem dX7_mixWord_23 : decode cX7_mixWord 23 = .ok (.iaload, 1) := by decide +kernel
theorem dX7_mixWord_24 : decode cX7_mixWord 24 = .ok (.invokestatic 178, 3) := by decide +kernel
theorem dX7_mixWord_27 : decode cX7_mixWord 27 = .ok (.i2l, 1) := by decide +kernel
theorem dX7_mixWord_28 : decode cX7_mixWord 28 = .ok (.invokevirtual 269, 3) := by decide +kernel
theorem dX7_mixWord_31 : decode cX7_mixWord 31 = .ok (.iinc 2 1, 3) := by decide +kernel
theorem dX7_mixWord_34 : decode cX7_mixWord 34 = .ok (.goto (-32), 3) := by decide +kernel
theorem dX7_mixWord_37 : decode cX7_mixWord 37 = .ok (.aload_n 0, 1) := by decide +kernel
theorem dX7_mixWord_38 : decode cX7_mixWord 38 = .ok (.aload_n 0, 1) := by decide +kernel
theorem dX7_mixWord_39 : decode cX7_mixWord 39 = .ok (.iload_n 1, 1) := by decide +kernel
theorem dX7_mixWord_40 : decode cX7_mixWord 40 = .ok (.invokevirtual 215, 3) := by decide +kernel
theorem dX7_mixWord_43 : decode cX7_mixWord 43 = .ok (.i2l, 1) := by decide +kernel
theorem dX7_mixWord_44 : decode cX7_mixWord 44 = .ok (.invokevirtual 269, 3) := by decide +kernel
theorem dX7_mixWord_47 : decode cX7_mixWord 47 = .ok (.iconst 0, 1) := by decide +kernel
theorem dX7_mixWord_48 : decode cX7_mixWord 48 = .ok (.istore_n 2, 1) := by decide +kernel
theorem dX7_mixWord_49 : decode cX7_mixWord 49 = .ok (.iload_n 2, 1) := by decide +kernel
theorem dX7_mixWord_50 : decode cX7_mixWord 50 = .ok (.iconst 4, 1) := by decide +kernel
theorem dX7_mixWord_51 : decode cX7_mixWord 51 = .ok (.if_icmp .ge 20, 3) := by decide +kernel
theorem dX7_mixWord_54 : decode cX7_mixWord 54 = .ok (.aload_n 0, 1) := by decide +kernel
theorem dX7_mixWord_55 : decode cX7_mixWord 55 = .ok (.aload_n 0, 1) := by decide +kernel
theorem dX7_mixWord_56 : decode cX7_mixWord 56 = .ok (.iload_n 1, 1) := by decide +kernel
theorem dX7_mixWord_57 : decode cX7_mixWord 57 = .ok (.iload_n 2, 1) := by decide +kernel
theorem dX7_mixWord_58 : decode cX7_mixWord 58 = .ok (.invokevirtual 187, 3) := by decide +kernel
theorem dX7_mixWord_61 : decode cX7_mixWord 61 = .ok (.i2l, 1) := by decide +kernel
theorem dX7_mixWord_62 : decode cX7_mixWord 62 = .ok (.invokevirtual 269, 3) := by decide +kernel
theorem dX7_mixWord_65 : decode cX7_mixWord 65 = .ok (.iinc 2 1, 3) := by decide +kernel
theorem dX7_mixWord_68 : decode cX7_mixWord 68 = .ok (.goto (-19), 3) := by decide +kernel
theorem dX7_mixWord_71 : decode cX7_mixWord 71 = .ok (.aload_n 0, 1) := by decide +kernel
theorem dX7_mixWord_72 : decode cX7_mixWord 72 = .ok (.aload_n 0, 1) := by decide +kernel
theorem dX7_mixWord_73 : decode cX7_mixWord 73 = .ok (.iload_n 1, 1) := by decide +kernel
theorem dX7_mixWord_74 : decode cX7_mixWord 74 = .ok (.iconst 0, 1) := by decide +kernel
theorem dX7_mixWord_75 : decode cX7_mixWord 75 = .ok (.bipush 6, 2) := by decide +kernel
theorem dX7_mixWord_77 : decode cX7_mixWord 77 = .ok (.invokevirtual 184, 3) := by decide +kernel
theorem dX7_mixWord_80 : decode cX7_mixWord 80 = .ok (.i2l, 1) := by decide +kernel
theorem dX7_mixWord_81 : decode cX7_mixWord 81 = .ok (.invokevirtual 269, 3) := by decide +kernel
theorem dX7_mixWord_84 : decode cX7_mixWord 84 = .ok (.aload_n 0, 1) := by decide +kernel
theorem dX7_mixWord_85 : decode cX7_mixWord 85 = .ok (.aload_n 0, 1) := by decide +kernel
theorem dX7_mixWord_86 : decode cX7_mixWord 86 = .ok (.iload_n 1, 1) := by decide +kernel
theorem dX7_mixWord_87 : decode cX7_mixWord 87 = .ok (.iconst 5, 1) := by decide +kernel
theorem dX7_mixWord_88 : decode cX7_mixWord 88 = .ok (.bipush 6, 2) := by decide +kernel
theorem dX7_mixWord_90 : decode cX7_mixWord 90 = .ok (.invokevirtual 184, 3) := by decide +kernel
theorem dX7_mixWord_93 : decode cX7_mixWord 93 = .ok (.i2l, 1) := by decide +kernel
theorem dX7_mixWord_94 : decode cX7_mixWord 94 = .ok (.invokevirtual 269, 3) := by decide +kernel
theorem dX7_mixWord_97 : decode cX7_mixWord 97 = .ok (.return_, 1) := by decide +kernel
theorem dX7_digest_0 : decode cX7_digest 0 = .ok (.aload_n 0, 1) := by decide +kernel
theorem dX7_digest_1 : decode cX7_digest 1 = .ok (.ldc2_w 273, 3) := by decide +kernel
theorem dX7_digest_4 : decode cX7_digest 4 = .ok (.putfield 266, 3) := by decide +kernel
theorem dX7_digest_7 : decode cX7_digest 7 = .ok (.iconst 0, 1) := by decide +kernel
theorem dX7_digest_8 : decode cX7_digest 8 = .ok (.istore_n 1, 1) := by decide +kernel
theorem dX7_digest_9 : decode cX7_digest 9 = .ok (.iload_n 1, 1) := by decide +kernel
theorem dX7_digest_10 : decode cX7_digest 10 = .ok (.aload_n 0, 1) := by decide +kernel
theorem dX7_digest_11 : decode cX7_digest 11 = .ok (.getfield 96, 3) := by decide +kernel
theorem dX7_digest_14 : decode cX7_digest 14 = .ok (.if_icmp .ge 34, 3) := by decide +kernel
theorem dX7_digest_17 : decode cX7_digest 17 = .ok (.iconst 0, 1) := by decide +kernel
theorem dX7_digest_18 : decode cX7_digest 18 = .ok (.istore_n 2, 1) := by decide +kernel
theorem dX7_digest_19 : decode cX7_digest 19 = .ok (.iload_n 2, 1) := by decide +kernel
theorem dX7_digest_20 : decode cX7_digest 20 = .ok (.bipush 8, 2) := by decide +kernel
theorem dX7_digest_22 : decode cX7_digest 22 = .ok (.if_icmp .ge 20, 3) := by decide +kernel
theorem dX7_digest_25 : decode cX7_digest 25 = .ok (.aload_n 0, 1) := by decide +kernel
theorem dX7_digest_26 : decode cX7_digest 26 = .ok (.aload_n 0, 1) := by decide +kernel
theorem dX7_digest_27 : decode cX7_digest 27 = .ok (.iload_n 1, 1) := by decide +kernel
theorem dX7_digest_28 : decode cX7_digest 28 = .ok (.iload_n 2, 1) := by decide +kernel
theorem dX7_digest_29 : decode cX7_digest 29 = .ok (.invokevirtual 172, 3) := by decide +kernel
theorem dX7_digest_32 : decode cX7_digest 32 = .ok (.i2l, 1) := by decide +kernel
theorem dX7_digest_33 : decode cX7_digest 33 = .ok (.invokevirtual 269, 3) := by decide +kernel
theorem dX7_digest_36 : decode cX7_digest 36 = .ok (.iinc 2 1, 3) := by decide +kernel
theorem dX7_digest_39 : decode cX7_digest 39 = .ok (.goto (-20), 3) := by decide +kernel
theorem dX7_digest_42 : decode cX7_digest 42 = .ok (.iinc 1 1, 3) := by decide +kernel
theorem dX7_digest_45 : decode cX7_digest 45 = .ok (.goto (-36), 3) := by decide +kernel
theorem dX7_digest_48 : decode cX7_digest 48 = .ok (.iconst 0, 1) := by decide +kernel
theorem dX7_digest_49 : decode cX7_digest 49 = .ok (.istore_n 1, 1) := by decide +kernel
theorem dX7_digest_50 : decode cX7_digest 50 = .ok (.iload_n 1, 1) := by decide +kernel
theorem dX7_digest_51 : decode cX7_digest 51 = .ok (.iconst 3, 1) := by decide +kernel
theorem dX7_digest_52 : decode cX7_digest 52 = .ok (.if_icmp .ge 21, 3) := by decide +kernel
theorem dX7_digest_55 : decode cX7_digest 55 = .ok (.aload_n 0, 1) := by decide +kernel
theorem dX7_digest_56 : decode cX7_digest 56 = .ok (.getfield 96, 3) := by decide +kernel
theorem dX7_digest_59 : decode cX7_digest 59 = .ok (.ifCond .le 14, 3) := by decide +kernel
theorem dX7_digest_62 : decode cX7_digest 62 = .ok (.aload_n 0, 1) := by decide +kernel
theorem dX7_digest_63 : decode cX7_digest 63 = .ok (.iload_n 1, 1) := by decide +kernel
theorem dX7_digest_64 : decode cX7_digest 64 = .ok (.invokevirtual 275, 3) := by decide +kernel
theorem dX7_digest_67 : decode cX7_digest 67 = .ok (.iinc 1 1, 3) := by decide +kernel
theorem dX7_digest_70 : decode cX7_digest 70 = .ok (.goto (-20), 3) := by decide +kernel
theorem dX7_digest_73 : decode cX7_digest 73 = .ok (.iconst 0, 1) := by decide +kernel
theorem dX7_digest_74 : decode cX7_digest 74 = .ok (.istore_n 1, 1) := by decide +kernel
theorem dX7_digest_75 : decode cX7_digest 75 = .ok (.iload_n 1, 1) := by decide +kernel
theorem dX7_digest_76 : decode cX7_digest 76 = .ok (.aload_n 0, 1) := by decide +kernel
theorem dX7_digest_77 : decode cX7_digest 77 = .ok (.getfield 73, 3) := by decide +kernel
theorem dX7_digest_80 : decode cX7_digest 80 = .ok (.if_icmp .ge 20, 3) := by decide +kernel
theorem dX7_digest_83 : decode cX7_digest 83 = .ok (.aload_n 0, 1) := by decide +kernel
theorem dX7_digest_84 : decode cX7_digest 84 = .ok (.aload_n 0, 1) := by decide +kernel
theorem dX7_digest_85 : decode cX7_digest 85 = .ok (.getfield 32, 3) := by decide +kernel
theorem dX7_digest_88 : decode cX7_digest 88 = .ok (.iload_n 1, 1) := by decide +kernel
theorem dX7_digest_89 : decode cX7_digest 89 = .ok (.iaload, 1) := by decide +kernel
theorem dX7_digest_90 : decode cX7_digest 90 = .ok (.i2l, 1) := by decide +kernel
theorem dX7_digest_91 : decode cX7_digest 91 = .ok (.invokevirtual 269, 3) := by decide +kernel
theorem dX7_digest_94 : decode cX7_digest 94 = .ok (.iinc 1 1, 3) := by decide +kernel
theorem dX7_digest_97 : decode cX7_digest 97 = .ok (.goto (-22), 3) := by decide +kernel
theorem dX7_digest_100 : decode cX7_digest 100 = .ok (.iconst 0, 1) := by decide +kernel
theorem dX7_digest_101 : decode cX7_digest 101 = .ok (.istore_n 1, 1) := by decide +kernel
theorem dX7_digest_102 : decode cX7_digest 102 = .ok (.iload_n 1, 1) := by decide +kernel
theorem dX7_digest_103 : decode cX7_digest 103 = .ok (.bipush 7, 2) := by decide +kernel
theorem dX7_digest_105 : decode cX7_digest 105 = .ok (.if_icmp .ge 19, 3) := by decide +kernel
theorem dX7_digest_108 : decode cX7_digest 108 = .ok (.aload_n 0, 1) := by decide +kernel
theorem dX7_digest_109 : decode cX7_digest 109 = .ok (.aload_n 0, 1) := by decide +kernel
theorem dX7_digest_110 : decode cX7_digest 110 = .ok (.iload_n 1, 1) := by decide +kernel
theorem dX7_digest_111 : decode cX7_digest 111 = .ok (.invokevirtual 261, 3) := by decide +kernel
theorem dX7_digest_114 : decode cX7_digest 114 = .ok (.i2l, 1) := by decide +kernel
theorem dX7_digest_115 : decode cX7_digest 115 = .ok (.invokevirtual 269, 3) := by decide +kernel
theorem dX7_digest_118 : decode cX7_digest 118 = .ok (.iinc 1 1, 3) := by decide +kernel
theorem dX7_digest_121 : decode cX7_digest 121 = .ok (.goto (-19), 3) := by decide +kernel
theorem dX7_digest_124 : decode cX7_digest 124 = .ok (.aload_n 0, 1) := by decide +kernel
theorem dX7_digest_125 : decode cX7_digest 125 = .ok (.getfield 266, 3) := by decide +kernel
theorem dX7_digest_128 : decode cX7_digest 128 = .ok (.lreturn, 1) := by decide +kernel
