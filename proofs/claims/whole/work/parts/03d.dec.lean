theorem dX8_init_0 : decode cX8_init 0 = .ok (.aload_n 0, 1) := by decide +kernel
theorem dX8_init_1 : decode cX8_init 1 = .ok (.invokespecial 1, 3) := by decide +kernel
theorem dX8_init_4 : decode cX8_init 4 = .ok (.aload_n 0, 1) := by decide +kernel
theorem dX8_init_5 : decode cX8_init 5 = .ok (.sipush 200, 3) := by decide +kernel
theorem dX8_init_8 : decode cX8_init 8 = .ok (.newarray .int, 2) := by decide +kernel
theorem dX8_init_10 : decode cX8_init 10 = .ok (.putfield 7, 3) := by decide +kernel
theorem dX8_init_13 : decode cX8_init 13 = .ok (.aload_n 0, 1) := by decide +kernel
theorem dX8_init_14 : decode cX8_init 14 = .ok (.bipush 31, 2) := by decide +kernel
theorem dX8_init_16 : decode cX8_init 16 = .ok (.newarray .int, 2) := by decide +kernel
theorem dX8_init_18 : decode cX8_init 18 = .ok (.putfield 13, 3) := by decide +kernel
theorem dX8_init_21 : decode cX8_init 21 = .ok (.aload_n 0, 1) := by decide +kernel
theorem dX8_init_22 : decode cX8_init 22 = .ok (.bipush 31, 2) := by decide +kernel
theorem dX8_init_24 : decode cX8_init 24 = .ok (.newarray .int, 2) := by decide +kernel
theorem dX8_init_26 : decode cX8_init 26 = .ok (.putfield 16, 3) := by decide +kernel
theorem dX8_init_29 : decode cX8_init 29 = .ok (.aload_n 0, 1) := by decide +kernel
theorem dX8_init_30 : decode cX8_init 30 = .ok (.bipush 10, 2) := by decide +kernel
theorem dX8_init_32 : decode cX8_init 32 = .ok (.newarray .int, 2) := by decide +kernel
theorem dX8_init_34 : decode cX8_init 34 = .ok (.putfield 19, 3) := by decide +kernel
theorem dX8_init_37 : decode cX8_init 37 = .ok (.aload_n 0, 1) := by decide +kernel
theorem dX8_init_38 : decode cX8_init 38 = .ok (.bipush 80, 2) := by decide +kernel
theorem dX8_init_40 : decode cX8_init 40 = .ok (.newarray .int, 2) := by decide +kernel
theorem dX8_init_42 : decode cX8_init 42 = .ok (.putfield 22, 3) := by decide +kernel
theorem dX8_init_45 : decode cX8_init 45 = .ok (.aload_n 0, 1) := by decide +kernel
theorem dX8_init_46 : decode cX8_init 46 = .ok (.bipush 20, 2) := by decide +kernel
theorem dX8_init_48 : decode cX8_init 48 = .ok (.newarray .int, 2) := by decide +kernel
theorem dX8_init_50 : decode cX8_init 50 = .ok (.putfield 25, 3) := by decide +kernel
theorem dX8_init_53 : decode cX8_init 53 = .ok (.aload_n 0, 1) := by decide +kernel
theorem dX8_init_54 : decode cX8_init 54 = .ok (.bipush 8, 2) := by decide +kernel
theorem dX8_init_56 : decode cX8_init 56 = .ok (.newarray .int, 2) := by decide +kernel
theorem dX8_init_58 : decode cX8_init 58 = .ok (.putfield 28, 3) := by decide +kernel
theorem dX8_init_61 : decode cX8_init 61 = .ok (.aload_n 0, 1) := by decide +kernel
theorem dX8_init_62 : decode cX8_init 62 = .ok (.iconst 5, 1) := by decide +kernel
theorem dX8_init_63 : decode cX8_init 63 = .ok (.newarray .int, 2) := by decide +kernel
theorem dX8_init_65 : decode cX8_init 65 = .ok (.putfield 31, 3) := by decide +kernel
theorem dX8_init_68 : decode cX8_init 68 = .ok (.aload_n 0, 1) := by decide +kernel
theorem dX8_init_69 : decode cX8_init 69 = .ok (.iconst 5, 1) := by decide +kernel
theorem dX8_init_70 : decode cX8_init 70 = .ok (.newarray .int, 2) := by decide +kernel
theorem dX8_init_72 : decode cX8_init 72 = .ok (.putfield 34, 3) := by decide +kernel
theorem dX8_init_75 : decode cX8_init 75 = .ok (.aload_n 0, 1) := by decide +kernel
theorem dX8_init_76 : decode cX8_init 76 = .ok (.sipush 7776, 3) := by decide +kernel
theorem dX8_init_79 : decode cX8_init 79 = .ok (.newarray .int, 2) := by decide +kernel
theorem dX8_init_81 : decode cX8_init 81 = .ok (.putfield 37, 3) := by decide +kernel
theorem dX8_init_84 : decode cX8_init 84 = .ok (.aload_n 0, 1) := by decide +kernel
theorem dX8_init_85 : decode cX8_init 85 = .ok (.bipush 10, 2) := by decide +kernel
theorem dX8_init_87 : decode cX8_init 87 = .ok (.newarray .int, 2) := by decide +kernel
theorem dX8_init_89 : decode cX8_init 89 = .ok (.putfield 40, 3) := by decide +kernel
theorem dX8_init_92 : decode cX8_init 92 = .ok (.aload_n 0, 1) := by decide +kernel
theorem dX8_init_93 : decode cX8_init 93 = .ok (.invokevirtual 43, 3) := by decide +kernel
theorem dX8_init_96 : decode cX8_init 96 = .ok (.aload_n 0, 1) := by decide +kernel
theorem dX8_init_97 : decode cX8_init 97 = .ok (.iconst 0, 1) := by decide +kernel
theorem dX8_init_98 : decode cX8_init 98 = .ok (.bipush 12, 2) := by decide +kernel
theorem dX8_init_100 : decode cX8_init 100 = .ok (.iconst 3, 1) := by decide +kernel
theorem dX8_init_101 : decode cX8_init 101 = .ok (.bipush 9, 2) := by decide +kernel
theorem dX8_init_103 : decode cX8_init 103 = .ok (.iconst 0, 1) := by decide +kernel
theorem dX8_init_104 : decode cX8_init 104 = .ok (.invokevirtual 46, 3) := by decide +kernel
theorem dX8_init_107 : decode cX8_init 107 = .ok (.aload_n 0, 1) := by decide +kernel
theorem dX8_init_108 : decode cX8_init 108 = .ok (.iconst 1, 1) := by decide +kernel
theorem dX8_init_109 : decode cX8_init 109 = .ok (.bipush 8, 2) := by decide +kernel
theorem dX8_init_111 : decode cX8_init 111 = .ok (.bipush 7, 2) := by decide +kernel
theorem dX8_init_113 : decode cX8_init 113 = .ok (.bipush 6, 2) := by decide +kernel
theorem dX8_init_115 : decode cX8_init 115 = .ok (.iconst 1, 1) := by decide +kernel
theorem dX8_init_116 : decode cX8_init 116 = .ok (.invokevirtual 46, 3) := by decide +kernel
theorem dX8_init_119 : decode cX8_init 119 = .ok (.aload_n 0, 1) := by decide +kernel
theorem dX8_init_120 : decode cX8_init 120 = .ok (.iconst 2, 1) := by decide +kernel
theorem dX8_init_121 : decode cX8_init 121 = .ok (.bipush 10, 2) := by decide +kernel
theorem dX8_init_123 : decode cX8_init 123 = .ok (.iconst 0, 1) := by decide +kernel
theorem dX8_init_124 : decode cX8_init 124 = .ok (.bipush 14, 2) := by decide +kernel
theorem dX8_init_126 : decode cX8_init 126 = .ok (.iconst 3, 1) := by decide +kernel
theorem dX8_init_127 : decode cX8_init 127 = .ok (.invokevirtual 46, 3) := by decide +kernel
theorem dX8_init_130 : decode cX8_init 130 = .ok (.aload_n 0, 1) := by decide +kernel
theorem dX8_init_131 : decode cX8_init 131 = .ok (.iconst 3, 1) := by decide +kernel
theorem dX8_init_132 : decode cX8_init 132 = .ok (.bipush 6, 2) := by decide +kernel
theorem dX8_init_134 : decode cX8_init 134 = .ok (.bipush 10, 2) := by decide +kernel
theorem dX8_init_136 : decode cX8_init 136 = .ok (.iconst 5, 1) := by decide +kernel
theorem dX8_init_137 : decode cX8_init 137 = .ok (.iconst 4, 1) := by decide +kernel
theorem dX8_init_138 : decode cX8_init 138 = .ok (.invokevirtual 46, 3) := by decide +kernel
theorem dX8_init_141 : decode cX8_init 141 = .ok (.aload_n 0, 1) := by decide +kernel
theorem dX8_init_142 : decode cX8_init 142 = .ok (.getfield 16, 3) := by decide +kernel
theorem dX8_init_145 : decode cX8_init 145 = .ok (.iconst 4, 1) := by decide +kernel
theorem dX8_init_146 : decode cX8_init 146 = .ok (.bipush 8, 2) := by decide +kernel
theorem dX8_init_148 : decode cX8_init 148 = .ok (.iastore, 1) := by decide +kernel
theorem dX8_init_149 : decode cX8_init 149 = .ok (.aload_n 0, 1) := by decide +kernel
theorem dX8_init_150 : decode cX8_init 150 = .ok (.invokevirtual 50, 3) := by decide +kernel
theorem dX8_init_153 : decode cX8_init 153 = .ok (.return_, 1) := by decide +kernel
theorem dX8_in_0 : decode cX8_in 0 = .ok (.iload_n 0, 1) := by decide +kernel
theorem dX8_in_1 : decode cX8_in 1 = .ok (.iload_n 1, 1) := by decide +kernel
theorem dX8_in_2 : decode cX8_in 2 = .ok (.if_icmp .lt 12, 3) := by decide +kernel
theorem dX8_in_5 : decode cX8_in 5 = .ok (.iload_n 0, 1) := by decide +kernel
theorem dX8_in_6 : decode cX8_in 6 = .ok (.iload_n 2, 1) := by decide +kernel
theorem dX8_in_7 : decode cX8_in 7 = .ok (.if_icmp .gt 7, 3) := by decide +kernel
theorem dX8_in_10 : decode cX8_in 10 = .ok (.iconst 1, 1) := by decide +kernel
theorem dX8_in_11 : decode cX8_in 11 = .ok (.goto 4, 3) := by decide +kernel
theorem dX8_in_14 : decode cX8_in 14 = .ok (.iconst 0, 1) := by decide +kernel
theorem dX8_in_15 : decode cX8_in 15 = .ok (.ireturn, 1) := by decide +kernel
theorem dX8_isGuest_0 : decode cX8_isGuest 0 = .ok (.iload_n 1, 1) := by decide +kernel
theorem dX8_isGuest_1 : decode cX8_isGuest 1 = .ok (.iconst 0, 1) := by decide +kernel
theorem dX8_isGuest_2 : decode cX8_isGuest 2 = .ok (.aload_n 0, 1) := by decide +kernel
theorem dX8_isGuest_3 : decode cX8_isGuest 3 = .ok (.getfield 13, 3) := by decide +kernel
theorem dX8_isGuest_6 : decode cX8_isGuest 6 = .ok (.iconst 0, 1) := by decide +kernel
theorem dX8_isGuest_7 : decode cX8_isGuest 7 = .ok (.iaload, 1) := by decide +kernel
theorem dX8_isGuest_8 : decode cX8_isGuest 8 = .ok (.iconst 1, 1) := by decide +kernel
theorem dX8_isGuest_9 : decode cX8_isGuest 9 = .ok (.isub, 1) := by decide +kernel
theorem dX8_isGuest_10 : decode cX8_isGuest 10 = .ok (.invokestatic 53, 3) := by decide +kernel
theorem dX8_isGuest_13 : decode cX8_isGuest 13 = .ok (.ireturn, 1) := by decide +kernel
theorem dX8_isBed_0 : decode cX8_isBed 0 = .ok (.iload_n 1, 1) := by decide +kernel
theorem dX8_isBed_1 : decode cX8_isBed 1 = .ok (.iconst 0, 1) := by decide +kernel
theorem dX8_isBed_2 : decode cX8_isBed 2 = .ok (.aload_n 0, 1) := by decide +kernel
theorem dX8_isBed_3 : decode cX8_isBed 3 = .ok (.getfield 13, 3) := by decide +kernel
theorem dX8_isBed_6 : decode cX8_isBed 6 = .ok (.iconst 1, 1) := by decide +kernel
theorem dX8_isBed_7 : decode cX8_isBed 7 = .ok (.iaload, 1) := by decide +kernel
theorem dX8_isBed_8 : decode cX8_isBed 8 = .ok (.iconst 1, 1) := by decide +kernel
theorem dX8_isBed_9 : decode cX8_isBed 9 = .ok (.isub, 1) := by decide +kernel
theorem dX8_isBed_10 : decode cX8_isBed 10 = .ok (.invokestatic 53, 3) := by decide +kernel
theorem dX8_isBed_13 : decode cX8_isBed 13 = .ok (.ireturn, 1) := by decide +kernel
theorem dX8_isWall_0 : decode cX8_isWall 0 = .ok (.iload_n 1, 1) := by decide +kernel
theorem dX8_isWall_1 : decode cX8_isWall 1 = .ok (.iconst 0, 1) := by decide +kernel
theorem dX8_isWall_2 : decode cX8_isWall 2 = .ok (.aload_n 0, 1) := by decide +kernel
theorem dX8_isWall_3 : decode cX8_isWall 3 = .ok (.getfield 13, 3) := by decide +kernel
theorem dX8_isWall_6 : decode cX8_isWall 6 = .ok (.iconst 1, 1) := by decide +kernel
theorem dX8_isWall_7 : decode cX8_isWall 7 = .ok (.iaload, 1) := by decide +kernel
theorem dX8_isWall_8 : decode cX8_isWall 8 = .ok (.iconst 2, 1) := by decide +kernel
theorem dX8_isWall_9 : decode cX8_isWall 9 = .ok (.isub, 1) := by decide +kernel
theorem dX8_isWall_10 : decode cX8_isWall 10 = .ok (.invokestatic 53, 3) := by decide +kernel
theorem dX8_isWall_13 : decode cX8_isWall 13 = .ok (.ireturn, 1) := by decide +kernel
theorem dX8_ones_0 : decode cX8_ones 0 = .ok (.iconst 0, 1) := by decide +kernel
theorem dX8_ones_1 : decode cX8_ones 1 = .ok (.istore_n 1, 1) := by decide +kernel
theorem dX8_ones_2 : decode cX8_ones 2 = .ok (.iconst 0, 1) := by decide +kernel
theorem dX8_ones_3 : decode cX8_ones 3 = .ok (.istore_n 2, 1) := by decide +kernel
theorem dX8_ones_4 : decode cX8_ones 4 = .ok (.iload_n 2, 1) := by decide +kernel
theorem dX8_ones_5 : decode cX8_ones 5 = .ok (.bipush 8, 2) := by decide +kernel
theorem dX8_ones_7 : decode cX8_ones 7 = .ok (.if_icmp .ge 17, 3) := by decide +kernel
theorem dX8_ones_10 : decode cX8_ones 10 = .ok (.iload_n 1, 1) := by decide +kernel
theorem dX8_ones_11 : decode cX8_ones 11 = .ok (.iload_n 0, 1) := by decide +kernel
theorem dX8_ones_12 : decode cX8_ones 12 = .ok (.iload_n 2, 1) := by decide +kernel
theorem dX8_ones_13 : decode cX8_ones 13 = .ok (.ishr, 1) := by decide +kernel
theorem dX8_ones_14 : decode cX8_ones 14 = .ok (.iconst 1, 1) := by decide +kernel
theorem dX8_ones_15 : decode cX8_ones 15 = .ok (.iand, 1) := by decide +kernel
theorem dX8_ones_16 : decode cX8_ones 16 = .ok (.iadd, 1) := by decide +kernel
theorem dX8_ones_17 : decode cX8_ones 17 = .ok (.istore_n 1, 1) := by decide +kernel
theorem dX8_ones_18 : decode cX8_ones 18 = .ok (.iinc 2 1, 3) := by decide +kernel
theorem dX8_ones_21 : decode cX8_ones 21 = .ok (.goto (-17), 3) := by decide +kernel
theorem dX8_ones_24 : decode cX8_ones 24 = .ok (.iload_n 1, 1) := by decide +kernel
theorem dX8_ones_25 : decode cX8_ones 25 = .ok (.ireturn, 1) := by decide +kernel
theorem dX8_write_0 : decode cX8_write 0 = .ok (.iload_n 1, 1) := by decide +kernel
theorem dX8_write_1 : decode cX8_write 1 = .ok (.bipush 32, 2) := by decide +kernel
theorem dX8_write_3 : decode cX8_write 3 = .ok (.bipush 126, 2) := by decide +kernel
theorem dX8_write_5 : decode cX8_write 5 = .ok (.invokestatic 53, 3) := by decide +kernel
theorem dX8_write_8 : decode cX8_write 8 = .ok (.ifCond .ne 5, 3) := by decide +kernel
theorem dX8_write_11 : decode cX8_write 11 = .ok (.iconst (-1), 1) := by decide +kernel
theorem dX8_write_12 : decode cX8_write 12 = .ok (.ireturn, 1) := by decide +kernel
theorem dX8_write_13 : decode cX8_write 13 = .ok (.aload_n 0, 1) := by decide +kernel
theorem dX8_write_14 : decode cX8_write 14 = .ok (.getfield 57, 3) := by decide +kernel
theorem dX8_write_17 : decode cX8_write 17 = .ok (.sipush 200, 3) := by decide +kernel
theorem dX8_write_20 : decode cX8_write 20 = .ok (.if_icmp .ne 6, 3) := by decide +kernel
theorem dX8_write_23 : decode cX8_write 23 = .ok (.bipush (-3), 2) := by decide +kernel
theorem dX8_write_25 : decode cX8_write 25 = .ok (.ireturn, 1) := by decide +kernel
theorem dX8_write_26 : decode cX8_write 26 = .ok (.aload_n 0, 1) := by decide +kernel
theorem dX8_write_27 : decode cX8_write 27 = .ok (.getfield 7, 3) := by decide +kernel
theorem dX8_write_30 : decode cX8_write 30 = .ok (.aload_n 0, 1) := by decide +kernel
theorem dX8_write_31 : decode cX8_write 31 = .ok (.getfield 57, 3) := by decide +kernel
theorem dX8_write_34 : decode cX8_write 34 = .ok (.iload_n 1, 1) := by decide +kernel
theorem dX8_write_35 : decode cX8_write 35 = .ok (.iastore, 1) := by decide +kernel
theorem dX8_write_36 : decode cX8_write 36 = .ok (.aload_n 0, 1) := by decide +kernel
theorem dX8_write_37 : decode cX8_write 37 = .ok (.dup, 1) := by decide +kernel
theorem dX8_write_38 : decode cX8_write 38 = .ok (.getfield 57, 3) := by decide +kernel
theorem dX8_write_41 : decode cX8_write 41 = .ok (.iconst 1, 1) := by decide +kernel
theorem dX8_write_42 : decode cX8_write 42 = .ok (.iadd, 1) := by decide +kernel
theorem dX8_write_43 : decode cX8_write 43 = .ok (.putfield 57, 3) := by decide +kernel
theorem dX8_write_46 : decode cX8_write 46 = .ok (.aload_n 0, 1) := by decide +kernel
theorem dX8_write_47 : decode cX8_write 47 = .ok (.getfield 57, 3) := by decide +kernel
theorem dX8_write_50 : decode cX8_write 50 = .ok (.ireturn, 1) := by decide +kernel
theorem dX8_wipe_0 : decode cX8_wipe 0 = .ok (.aload_n 0, 1) := by decide +kernel
theorem dX8_wipe_1 : decode cX8_wipe 1 = .ok (.getfield 57, 3) := by decide +kernel
theorem dX8_wipe_4 : decode cX8_wipe 4 = .ok (.istore_n 1, 1) := by decide +kernel
theorem dX8_wipe_5 : decode cX8_wipe 5 = .ok (.aload_n 0, 1) := by decide +kernel
theorem dX8_wipe_6 : decode cX8_wipe 6 = .ok (.iconst 0, 1) := by decide +kernel
theorem dX8_wipe_7 : decode cX8_wipe 7 = .ok (.putfield 57, 3) := by decide +kernel
theorem dX8_wipe_10 : decode cX8_wipe 10 = .ok (.iload_n 1, 1) := by decide +kernel
theorem dX8_wipe_11 : decode cX8_wipe 11 = .ok (.ireturn, 1) := by decide +kernel
theorem dX8_letterAt_0 : decode cX8_letterAt 0 = .ok (.iload_n 1, 1) := by decide +kernel
theorem dX8_letterAt_1 : decode cX8_letterAt 1 = .ok (.aload_n 0, 1) := by decide +kernel
theorem dX8_letterAt_2 : decode cX8_letterAt 2 = .ok (.getfield 57, 3) := by decide +kernel
theorem dX8_letterAt_5 : decode cX8_letterAt 5 = .ok (.if_icmp .ge 12, 3) := by decide +kernel
theorem dX8_letterAt_8 : decode cX8_letterAt 8 = .ok (.aload_n 0, 1) := by decide +kernel
theorem dX8_letterAt_9 : decode cX8_letterAt 9 = .ok (.getfield 7, 3) := by decide +kernel
theorem dX8_letterAt_12 : decode cX8_letterAt 12 = .ok (.iload_n 1, 1) := by decide +kernel
theorem dX8_letterAt_13 : decode cX8_letterAt 13 = .ok (.iaload, 1) := by decide +kernel
theorem dX8_letterAt_14 : decode cX8_letterAt 14 = .ok (.goto 4, 3) := by decide +kernel
theorem dX8_letterAt_17 : decode cX8_letterAt 17 = .ok (.iconst (-1), 1) := by decide +kernel
theorem dX8_letterAt_18 : decode cX8_letterAt 18 = .ok (.ireturn, 1) := by decide +kernel
theorem dX8_isFigure_0 : decode cX8_isFigure 0 = .ok (.iload_n 0, 1) := by decide +kernel
theorem dX8_isFigure_1 : decode cX8_isFigure 1 = .ok (.bipush 48, 2) := by decide +kernel
theorem dX8_isFigure_3 : decode cX8_isFigure 3 = .ok (.bipush 57, 2) := by decide +kernel
theorem dX8_isFigure_5 : decode cX8_isFigure 5 = .ok (.invokestatic 53, 3) := by decide +kernel
theorem dX8_isFigure_8 : decode cX8_isFigure 8 = .ok (.ireturn, 1) := by decide +kernel
theorem dX8_number_0 : decode cX8_number 0 = .ok (.aload_n 0, 1) := by decide +kernel
theorem dX8_number_1 : decode cX8_number 1 = .ok (.aload_n 0, 1) := by decide +kernel
theorem dX8_number_2 : decode cX8_number 2 = .ok (.getfield 61, 3) := by decide +kernel
theorem dX8_number_5 : decode cX8_number 5 = .ok (.invokevirtual 64, 3) := by decide +kernel
theorem dX8_number_8 : decode cX8_number 8 = .ok (.invokestatic 68, 3) := by decide +kernel
theorem dX8_number_11 : decode cX8_number 11 = .ok (.ifCond .ne 5, 3) := by decide +kernel
theorem dX8_number_14 : decode cX8_number 14 = .ok (.iconst (-1), 1) := by decide +kernel
theorem dX8_number_15 : decode cX8_number 15 = .ok (.ireturn, 1) := by decide +kernel
theorem dX8_number_16 : decode cX8_number 16 = .ok (.aload_n 0, 1) := by decide +kernel
theorem dX8_number_17 : decode cX8_number 17 = .ok (.aload_n 0, 1) := by decide +kernel
theorem dX8_number_18 : decode cX8_number 18 = .ok (.getfield 61, 3) := by decide +kernel
theorem dX8_number_21 : decode cX8_number 21 = .ok (.invokevirtual 64, 3) := by decide +kernel
theorem dX8_number_24 : decode cX8_number 24 = .ok (.bipush 48, 2) := by decide +kernel
theorem dX8_number_26 : decode cX8_number 26 = .ok (.isub, 1) := by decide +kernel
theorem dX8_number_27 : decode cX8_number 27 = .ok (.istore 4, 2) := by decide +kernel
theorem dX8_number_29 : decode cX8_number 29 = .ok (.aload_n 0, 1) := by decide +kernel
theorem dX8_number_30 : decode cX8_number 30 = .ok (.dup, 1) := by decide +kernel
theorem dX8_number_31 : decode cX8_number 31 = .ok (.getfield 61, 3) := by decide +kernel
theorem dX8_number_34 : decode cX8_number 34 = .ok (.iconst 1, 1) := by decide +kernel
theorem dX8_number_35 : decode cX8_number 35 = .ok (.iadd, 1) := by decide +kernel
theorem dX8_number_36 : decode cX8_number 36 = .ok (.putfield 61, 3) := by decide +kernel
theorem dX8_number_39 : decode cX8_number 39 = .ok (.aload_n 0, 1) := by decide +kernel
theorem dX8_number_40 : decode cX8_number 40 = .ok (.aload_n 0, 1) := by decide +kernel
theorem dX8_number_41 : decode cX8_number 41 = .ok (.getfield 61, 3) := by decide +kernel
theorem dX8_number_44 : decode cX8_number 44 = .ok (.invokevirtual 64, 3) := by decide +kernel
theorem dX8_number_47 : decode cX8_number 47 = .ok (.invokestatic 68, 3) := by decide +kernel
theorem dX8_number_50 : decode cX8_number 50 = .ok (.ifCond .eq 32, 3) := by decide +kernel
theorem dX8_number_53 : decode cX8_number 53 = .ok (.bipush 10, 2) := by decide +kernel
theorem dX8_number_55 : decode cX8_number 55 = .ok (.iload 4, 2) := by decide +kernel
theorem dX8_number_57 : decode cX8_number 57 = .ok (.imul, 1) := by decide +kernel
theorem dX8_number_58 : decode cX8_number 58 = .ok (.aload_n 0, 1) := by decide +kernel
theorem dX8_number_59 : decode cX8_number 59 = .ok (.aload_n 0, 1) := by decide +kernel
theorem dX8_number_60 : decode cX8_number 60 = .ok (.getfield 61, 3) := by decide +kernel
theorem dX8_number_63 : decode cX8_number 63 = .ok (.invokevirtual 64, 3) := by decide +kernel
theorem dX8_number_66 : decode cX8_number 66 = .ok (.iadd, 1) := by decide +kernel
theorem dX8_number_67 : decode cX8_number 67 = .ok (.bipush 48, 2) := by decide +kernel
theorem dX8_number_69 : decode cX8_number 69 = .ok (.isub, 1) := by decide +kernel
theorem dX8_number_70 : decode cX8_number 70 = .ok (.istore 4, 2) := by decide +kernel
theorem dX8_number_72 : decode cX8_number 72 = .ok (.aload_n 0, 1) := by decide +kernel
theorem dX8_number_73 : decode cX8_number 73 = .ok (.dup, 1) := by decide +kernel
theorem dX8_number_74 : decode cX8_number 74 = .ok (.getfield 61, 3) := by decide +kernel
theorem dX8_number_77 : decode cX8_number 77 = .ok (.iconst 1, 1) := by decide +kernel
theorem dX8_number_78 : decode cX8_number 78 = .ok (.iadd, 1) := by decide +kernel
theorem dX8_number_79 : decode cX8_number 79 = .ok (.putfield 61, 3) := by decide +kernel
theorem dX8_number_82 : decode cX8_number 82 = .ok (.aload_n 0, 1) := by decide +kernel
theorem dX8_number_83 : decode cX8_number 83 = .ok (.aload_n 0, 1) := by decide +kernel
theorem dX8_number_84 : decode cX8_number 84 = .ok (.getfield 61, 3) := by decide +kernel
theorem dX8_number_87 : decode cX8_number 87 = .ok (.invokevirtual 64, 3) := by decide +kernel
theorem dX8_number_90 : decode cX8_number 90 = .ok (.iload_n 3, 1) := by decide +kernel
theorem dX8_number_91 : decode cX8_number 91 = .ok (.if_icmp .ne 17, 3) := by decide +kernel
theorem dX8_number_94 : decode cX8_number 94 = .ok (.iload 4, 2) := by decide +kernel
theorem dX8_number_96 : decode cX8_number 96 = .ok (.iload_n 1, 1) := by decide +kernel
theorem dX8_number_97 : decode cX8_number 97 = .ok (.iload_n 2, 1) := by decide +kernel
theorem dX8_number_98 : decode cX8_number 98 = .ok (.invokestatic 53, 3) := by decide +kernel
theorem dX8_number_101 : decode cX8_number 101 = .ok (.ifCond .eq 7, 3) := by decide +kernel
theorem dX8_number_104 : decode cX8_number 104 = .ok (.iconst 1, 1) := by decide +kernel
theorem dX8_number_105 : decode cX8_number 105 = .ok (.goto 4, 3) := by decide +kernel
theorem dX8_number_108 : decode cX8_number 108 = .ok (.iconst 0, 1) := by decide +kernel
theorem dX8_number_109 : decode cX8_number 109 = .ok (.istore 5, 2) := by decide +kernel
theorem dX8_number_111 : decode cX8_number 111 = .ok (.aload_n 0, 1) := by decide +kernel
theorem dX8_number_112 : decode cX8_number 112 = .ok (.dup, 1) := by decide +kernel
theorem dX8_number_113 : decode cX8_number 113 = .ok (.getfield 61, 3) := by decide +kernel
theorem dX8_number_116 : decode cX8_number 116 = .ok (.iconst 1, 1) := by decide +kernel
theorem dX8_number_117 : decode cX8_number 117 = .ok (.iadd, 1) := by decide +kernel
theorem dX8_number_118 : decode cX8_number 118 = .ok (.putfield 61, 3) := by decide +kernel
theorem dX8_number_121 : decode cX8_number 121 = .ok (.iload 5, 2) := by decide +kernel
theorem dX8_number_123 : decode cX8_number 123 = .ok (.ifCond .eq 8, 3) := by decide +kernel
theorem dX8_number_126 : decode cX8_number 126 = .ok (.iload 4, 2) := by decide +kernel
theorem dX8_number_128 : decode cX8_number 128 = .ok (.goto 4, 3) := by decide +kernel
theorem dX8_number_131 : decode cX8_number 131 = .ok (.iconst (-1), 1) := by decide +kernel
theorem dX8_number_132 : decode cX8_number 132 = .ok (.ireturn, 1) := by decide +kernel
theorem dX8_begins_0 : decode cX8_begins 0 = .ok (.iconst 0, 1) := by decide +kernel
theorem dX8_begins_1 : decode cX8_begins 1 = .ok (.istore_n 1, 1) := by decide +kernel
theorem dX8_begins_2 : decode cX8_begins 2 = .ok (.iload_n 1, 1) := by decide +kernel
theorem dX8_begins_3 : decode cX8_begins 3 = .ok (.bipush 31, 2) := by decide +kernel
theorem dX8_begins_5 : decode cX8_begins 5 = .ok (.if_icmp .ge 16, 3) := by decide +kernel
theorem dX8_begins_8 : decode cX8_begins 8 = .ok (.aload_n 0, 1) := by decide +kernel
theorem dX8_begins_9 : decode cX8_begins 9 = .ok (.getfield 16, 3) := by decide +kernel
theorem dX8_begins_12 : decode cX8_begins 12 = .ok (.iload_n 1, 1) := by decide +kernel
theorem dX8_begins_13 : decode cX8_begins 13 = .ok (.iconst 0, 1) := by decide +kernel
theorem dX8_begins_14 : decode cX8_begins 14 = .ok (.iastore, 1) := by decide +kernel
theorem dX8_begins_15 : decode cX8_begins 15 = .ok (.iinc 1 1, 3) := by decide +kernel
theorem dX8_begins_18 : decode cX8_begins 18 = .ok (.goto (-16), 3) := by decide +kernel
theorem dX8_begins_21 : decode cX8_begins 21 = .ok (.aload_n 0, 1) := by decide +kernel
theorem dX8_begins_22 : decode cX8_begins 22 = .ok (.getfield 16, 3) := by decide +kernel
theorem dX8_begins_25 : decode cX8_begins 25 = .ok (.iconst 1, 1) := by decide +kernel
theorem dX8_begins_26 : decode cX8_begins 26 = .ok (.bipush 6, 2) := by decide +kernel
theorem dX8_begins_28 : decode cX8_begins 28 = .ok (.iastore, 1) := by decide +kernel
theorem dX8_begins_29 : decode cX8_begins 29 = .ok (.aload_n 0, 1) := by decide +kernel
theorem dX8_begins_30 : decode cX8_begins 30 = .ok (.getfield 16, 3) := by decide +kernel
theorem dX8_begins_33 : decode cX8_begins 33 = .ok (.iconst 2, 1) := by decide +kernel
theorem dX8_begins_34 : decode cX8_begins 34 = .ok (.bipush 8, 2) := by decide +kernel
theorem dX8_begins_36 : decode cX8_begins 36 = .ok (.iastore, 1) := by decide +kernel
theorem dX8_begins_37 : decode cX8_begins 37 = .ok (.aload_n 0, 1) := by decide +kernel
theorem dX8_begins_38 : decode cX8_begins 38 = .ok (.getfield 16, 3) := by decide +kernel
theorem dX8_begins_41 : decode cX8_begins 41 = .ok (.iconst 3, 1) := by decide +kernel
theorem dX8_begins_42 : decode cX8_begins 42 = .ok (.bipush 7, 2) := by decide +kernel
theorem dX8_begins_44 : decode cX8_begins 44 = .ok (.iastore, 1) := by decide +kernel
theorem dX8_begins_45 : decode cX8_begins 45 = .ok (.return_, 1) := by decide +kernel
theorem dX8_adds_0 : decode cX8_adds 0 = .ok (.aload_n 0, 1) := by decide +kernel
theorem dX8_adds_1 : decode cX8_adds 1 = .ok (.getfield 16, 3) := by decide +kernel
theorem dX8_adds_4 : decode cX8_adds 4 = .ok (.iconst 0, 1) := by decide +kernel
theorem dX8_adds_5 : decode cX8_adds 5 = .ok (.iaload, 1) := by decide +kernel
theorem dX8_adds_6 : decode cX8_adds 6 = .ok (.istore 6, 2) := by decide +kernel
theorem dX8_adds_8 : decode cX8_adds 8 = .ok (.aload_n 0, 1) := by decide +kernel
theorem dX8_adds_9 : decode cX8_adds 9 = .ok (.getfield 16, 3) := by decide +kernel
theorem dX8_adds_12 : decode cX8_adds 12 = .ok (.bipush 6, 2) := by decide +kernel
theorem dX8_adds_14 : decode cX8_adds 14 = .ok (.iload 6, 2) := by decide +kernel
theorem dX8_adds_16 : decode cX8_adds 16 = .ok (.iadd, 1) := by decide +kernel
theorem dX8_adds_17 : decode cX8_adds 17 = .ok (.iload_n 1, 1) := by decide +kernel
theorem dX8_adds_18 : decode cX8_adds 18 = .ok (.iastore, 1) := by decide +kernel
theorem dX8_adds_19 : decode cX8_adds 19 = .ok (.aload_n 0, 1) := by decide +kernel
theorem dX8_adds_20 : decode cX8_adds 20 = .ok (.getfield 16, 3) := by decide +kernel
theorem dX8_adds_23 : decode cX8_adds 23 = .ok (.bipush 11, 2) := by decide +kernel
theorem dX8_adds_25 : decode cX8_adds 25 = .ok (.iload 6, 2) := by decide +kernel
theorem dX8_adds_27 : decode cX8_adds 27 = .ok (.iadd, 1) := by decide +kernel
theorem dX8_adds_28 : decode cX8_adds 28 = .ok (.iload_n 2, 1) := by decide +kernel
theorem dX8_adds_29 : decode cX8_adds 29 = .ok (.iastore, 1) := by decide +kernel
theorem dX8_adds_30 : decode cX8_adds 30 = .ok (.aload_n 0, 1) := by decide +kernel
theorem dX8_adds_31 : decode cX8_adds 31 = .ok (.getfield 16, 3) := by decide +kernel
theorem dX8_adds_34 : decode cX8_adds 34 = .ok (.bipush 16, 2) := by decide +kernel
theorem dX8_adds_36 : decode cX8_adds 36 = .ok (.iload 6, 2) := by decide +kernel
theorem dX8_adds_38 : decode cX8_adds 38 = .ok (.iadd, 1) := by decide +kernel
theorem dX8_adds_39 : decode cX8_adds 39 = .ok (.iload_n 3, 1) := by decide +kernel
theorem dX8_adds_40 : decode cX8_adds 40 = .ok (.iastore, 1) := by decide +kernel
theorem dX8_adds_41 : decode cX8_adds 41 = .ok (.aload_n 0, 1) := by decide +kernel
theorem dX8_adds_42 : decode cX8_adds 42 = .ok (.getfield 16, 3) := by decide +kernel
theorem dX8_adds_45 : decode cX8_adds 45 = .ok (.bipush 21, 2) := by decide +kernel
theorem dX8_adds_47 : decode cX8_adds 47 = .ok (.iload 6, 2) := by decide +kernel
theorem dX8_adds_49 : decode cX8_adds 49 = .ok (.iadd, 1) := by decide +kernel
theorem dX8_adds_50 : decode cX8_adds 50 = .ok (.iload 4, 2) := by decide +kernel
theorem dX8_adds_52 : decode cX8_adds 52 = .ok (.iastore, 1) := by decide +kernel
theorem dX8_adds_53 : decode cX8_adds 53 = .ok (.aload_n 0, 1) := by decide +kernel
theorem dX8_adds_54 : decode cX8_adds 54 = .ok (.getfield 16, 3) := by decide +kernel
theorem dX8_adds_57 : decode cX8_adds 57 = .ok (.bipush 26, 2) := by decide +kernel
theorem dX8_adds_59 : decode cX8_adds 59 = .ok (.iload 6, 2) := by decide +kernel
theorem dX8_adds_61 : decode cX8_adds 61 = .ok (.iadd, 1) := by decide +kernel
theorem dX8_adds_62 : decode cX8_adds 62 = .ok (.iload 5, 2) := by decide +kernel
theorem dX8_adds_64 : decode cX8_adds 64 = .ok (.iastore, 1) := by decide +kernel
theorem dX8_adds_65 : decode cX8_adds 65 = .ok (.aload_n 0, 1) := by decide +kernel
theorem dX8_adds_66 : decode cX8_adds 66 = .ok (.getfield 16, 3) := by decide +kernel
theorem dX8_adds_69 : decode cX8_adds 69 = .ok (.iconst 0, 1) := by decide +kernel
theorem dX8_adds_70 : decode cX8_adds 70 = .ok (.dup2, 1) := by decide +kernel
theorem dX8_adds_71 : decode cX8_adds 71 = .ok (.iaload, 1) := by decide +kernel
theorem dX8_adds_72 : decode cX8_adds 72 = .ok (.iconst 1, 1) := by decide +kernel
theorem dX8_adds_73 : decode cX8_adds 73 = .ok (.iadd, 1) := by decide +kernel
theorem dX8_adds_74 : decode cX8_adds 74 = .ok (.iastore, 1) := by decide +kernel
theorem dX8_adds_75 : decode cX8_adds 75 = .ok (.return_, 1) := by decide +kernel
theorem dX8_readsGuest_0 : decode cX8_readsGuest 0 = .ok (.aload_n 0, 1) := by decide +kernel
theorem dX8_readsGuest_1 : decode cX8_readsGuest 1 = .ok (.iconst 0, 1) := by decide +kernel
theorem dX8_readsGuest_2 : decode cX8_readsGuest 2 = .ok (.iconst 3, 1) := by decide +kernel
theorem dX8_readsGuest_3 : decode cX8_readsGuest 3 = .ok (.bipush 44, 2) := by decide +kernel
theorem dX8_readsGuest_5 : decode cX8_readsGuest 5 = .ok (.invokevirtual 72, 3) := by decide +kernel
theorem dX8_readsGuest_8 : decode cX8_readsGuest 8 = .ok (.istore_n 1, 1) := by decide +kernel
theorem dX8_readsGuest_9 : decode cX8_readsGuest 9 = .ok (.iload_n 1, 1) := by decide +kernel
theorem dX8_readsGuest_10 : decode cX8_readsGuest 10 = .ok (.ifCond .ge 7, 3) := by decide +kernel
theorem dX8_readsGuest_13 : decode cX8_readsGuest 13 = .ok (.iconst (-1), 1) := by decide +kernel
theorem dX8_readsGuest_14 : decode cX8_readsGuest 14 = .ok (.goto 12, 3) := by decide +kernel
theorem dX8_readsGuest_17 : decode cX8_readsGuest 17 = .ok (.aload_n 0, 1) := by decide +kernel
theorem dX8_readsGuest_18 : decode cX8_readsGuest 18 = .ok (.iconst 0, 1) := by decide +kernel
theorem dX8_readsGuest_19 : decode cX8_readsGuest 19 = .ok (.bipush 30, 2) := by decide +kernel
theorem dX8_readsGuest_21 : decode cX8_readsGuest 21 = .ok (.bipush 44, 2) := by decide +kernel
theorem dX8_readsGuest_23 : decode cX8_readsGuest 23 = .ok (.invokevirtual 72, 3) := by decide +kernel
theorem dX8_readsGuest_26 : decode cX8_readsGuest 26 = .ok (.istore_n 2, 1) := by decide +kernel
theorem dX8_readsGuest_27 : decode cX8_readsGuest 27 = .ok (.iload_n 2, 1) := by decide +kernel
theorem dX8_readsGuest_28 : decode cX8_readsGuest 28 = .ok (.ifCond .ge 7, 3) := by decide +kernel
theorem dX8_readsGuest_31 : decode cX8_readsGuest 31 = .ok (.iconst (-1), 1) := by decide +kernel
theorem dX8_readsGuest_32 : decode cX8_readsGuest 32 = .ok (.goto 12, 3) := by decide +kernel
theorem dX8_readsGuest_35 : decode cX8_readsGuest 35 = .ok (.aload_n 0, 1) := by decide +kernel
theorem dX8_readsGuest_36 : decode cX8_readsGuest 36 = .ok (.iconst 0, 1) := by decide +kernel
theorem dX8_readsGuest_37 : decode cX8_readsGuest 37 = .ok (.bipush 12, 2) := by decide +kernel
theorem dX8_readsGuest_39 : decode cX8_readsGuest 39 = .ok (.bipush 44, 2) := by decide +kernel
theorem dX8_readsGuest_41 : decode cX8_readsGuest 41 = .ok (.invokevirtual 72, 3) := by decide +kernel
theorem dX8_readsGuest_44 : decode cX8_readsGuest 44 = .ok (.istore_n 3, 1) := by decide +kernel
theorem dX8_readsGuest_45 : decode cX8_readsGuest 45 = .ok (.iload_n 3, 1) := by decide +kernel
theorem dX8_readsGuest_46 : decode cX8_readsGuest 46 = .ok (.ifCond .ge 7, 3) := by decide +kernel
theorem dX8_readsGuest_49 : decode cX8_readsGuest 49 = .ok (.iconst (-1), 1) := by decide +kernel
theorem dX8_readsGuest_50 : decode cX8_readsGuest 50 = .ok (.goto 12, 3) := by decide +kernel
theorem dX8_readsGuest_53 : decode cX8_readsGuest 53 = .ok (.aload_n 0, 1) := by decide +kernel
theorem dX8_readsGuest_54 : decode cX8_readsGuest 54 = .ok (.iconst 1, 1) := by decide +kernel
theorem dX8_readsGuest_55 : decode cX8_readsGuest 55 = .ok (.bipush 40, 2) := by decide +kernel
theorem dX8_readsGuest_57 : decode cX8_readsGuest 57 = .ok (.bipush 44, 2) := by decide +kernel
theorem dX8_readsGuest_59 : decode cX8_readsGuest 59 = .ok (.invokevirtual 72, 3) := by decide +kernel
theorem dX8_readsGuest_62 : decode cX8_readsGuest 62 = .ok (.istore 4, 2) := by decide +kernel
theorem dX8_readsGuest_64 : decode cX8_readsGuest 64 = .ok (.iload 4, 2) := by decide +kernel
theorem dX8_readsGuest_66 : decode cX8_readsGuest 66 = .ok (.ifCond .ge 7, 3) := by decide +kernel
theorem dX8_readsGuest_69 : decode cX8_readsGuest 69 = .ok (.iconst (-1), 1) := by decide +kernel
theorem dX8_readsGuest_70 : decode cX8_readsGuest 70 = .ok (.goto 18, 3) := by decide +kernel
theorem dX8_readsGuest_73 : decode cX8_readsGuest 73 = .ok (.aload_n 0, 1) := by decide +kernel
theorem dX8_readsGuest_74 : decode cX8_readsGuest 74 = .ok (.iconst 0, 1) := by decide +kernel
theorem dX8_readsGuest_75 : decode cX8_readsGuest 75 = .ok (.aload_n 0, 1) := by decide +kernel
theorem dX8_readsGuest_76 : decode cX8_readsGuest 76 = .ok (.getfield 16, 3) := by decide +kernel
theorem dX8_readsGuest_79 : decode cX8_readsGuest 79 = .ok (.iconst 1, 1) := by decide +kernel
theorem dX8_readsGuest_80 : decode cX8_readsGuest 80 = .ok (.iaload, 1) := by decide +kernel
theorem dX8_readsGuest_81 : decode cX8_readsGuest 81 = .ok (.iconst 1, 1) := by decide +kernel
theorem dX8_readsGuest_82 : decode cX8_readsGuest 82 = .ok (.isub, 1) := by decide +kernel
theorem dX8_readsGuest_83 : decode cX8_readsGuest 83 = .ok (.bipush 59, 2) := by decide +kernel
theorem dX8_readsGuest_85 : decode cX8_readsGuest 85 = .ok (.invokevirtual 72, 3) := by decide +kernel
theorem dX8_readsGuest_88 : decode cX8_readsGuest 88 = .ok (.istore 5, 2) := by decide +kernel
theorem dX8_readsGuest_90 : decode cX8_readsGuest 90 = .ok (.iload 5, 2) := by decide +kernel
theorem dX8_readsGuest_92 : decode cX8_readsGuest 92 = .ok (.ifCond .lt 34, 3) := by decide +kernel
theorem dX8_readsGuest_95 : decode cX8_readsGuest 95 = .ok (.aload_n 0, 1) := by decide +kernel
theorem dX8_readsGuest_96 : decode cX8_readsGuest 96 = .ok (.getfield 16, 3) := by decide +kernel
theorem dX8_readsGuest_99 : decode cX8_readsGuest 99 = .ok (.iconst 0, 1) := by decide +kernel
theorem dX8_readsGuest_100 : decode cX8_readsGuest 100 = .ok (.iaload, 1) := by decide +kernel
theorem dX8_readsGuest_101 : decode cX8_readsGuest 101 = .ok (.iconst 5, 1) := by decide +kernel
theorem dX8_readsGuest_102 : decode cX8_readsGuest 102 = .ok (.if_icmp .ge 24, 3) := by decide +kernel
theorem dX8_readsGuest_105 : decode cX8_readsGuest 105 = .ok (.aload_n 0, 1) := by decide +kernel
theorem dX8_readsGuest_106 : decode cX8_readsGuest 106 = .ok (.getfield 16, 3) := by decide +kernel
theorem dX8_readsGuest_109 : decode cX8_readsGuest 109 = .ok (.iconst 0, 1) := by decide +kernel
theorem dX8_readsGuest_110 : decode cX8_readsGuest 110 = .ok (.iaload, 1) := by decide +kernel
theorem dX8_readsGuest_111 : decode cX8_readsGuest 111 = .ok (.iconst 1, 1) := by decide +kernel
theorem dX8_readsGuest_112 : decode cX8_readsGuest 112 = .ok (.iadd, 1) := by decide +kernel
theorem dX8_readsGuest_113 : decode cX8_readsGuest 113 = .ok (.aload_n 0, 1) := by decide +kernel
theorem dX8_readsGuest_114 : decode cX8_readsGuest 114 = .ok (.getfield 16, 3) := by decide +kernel
theorem dX8_readsGuest_117 : decode cX8_readsGuest 117 = .ok (.iconst 1, 1) := by decide +kernel
theorem dX8_readsGuest_118 : decode cX8_readsGuest 118 = .ok (.iaload, 1) := by decide +kernel
theorem dX8_readsGuest_119 : decode cX8_readsGuest 119 = .ok (.if_icmp .ge 7, 3) := by decide +kernel
theorem dX8_readsGuest_122 : decode cX8_readsGuest 122 = .ok (.iconst 1, 1) := by decide +kernel
theorem dX8_readsGuest_123 : decode cX8_readsGuest 123 = .ok (.goto 4, 3) := by decide +kernel
theorem dX8_readsGuest_126 : decode cX8_readsGuest 126 = .ok (.iconst 0, 1) := by decide +kernel
theorem dX8_readsGuest_127 : decode cX8_readsGuest 127 = .ok (.istore 6, 2) := by decide +kernel
theorem dX8_readsGuest_129 : decode cX8_readsGuest 129 = .ok (.iconst 0, 1) := by decide +kernel
theorem dX8_readsGuest_130 : decode cX8_readsGuest 130 = .ok (.istore 7, 2) := by decide +kernel
theorem dX8_readsGuest_132 : decode cX8_readsGuest 132 = .ok (.iload 7, 2) := by decide +kernel
theorem dX8_readsGuest_134 : decode cX8_readsGuest 134 = .ok (.aload_n 0, 1) := by decide +kernel
theorem dX8_readsGuest_135 : decode cX8_readsGuest 135 = .ok (.getfield 16, 3) := by decide +kernel
theorem dX8_readsGuest_138 : decode cX8_readsGuest 138 = .ok (.iconst 0, 1) := by decide +kernel
theorem dX8_readsGuest_139 : decode cX8_readsGuest 139 = .ok (.iaload, 1) := by decide +kernel
theorem dX8_readsGuest_140 : decode cX8_readsGuest 140 = .ok (.if_icmp .ge 36, 3) := by decide +kernel
theorem dX8_readsGuest_143 : decode cX8_readsGuest 143 = .ok (.iload 6, 2) := by decide +kernel
theorem dX8_readsGuest_145 : decode cX8_readsGuest 145 = .ok (.ifCond .eq 31, 3) := by decide +kernel
theorem dX8_readsGuest_148 : decode cX8_readsGuest 148 = .ok (.aload_n 0, 1) := by decide +kernel
theorem dX8_readsGuest_149 : decode cX8_readsGuest 149 = .ok (.getfield 16, 3) := by decide +kernel
theorem dX8_readsGuest_152 : decode cX8_readsGuest 152 = .ok (.bipush 26, 2) := by decide +kernel
theorem dX8_readsGuest_154 : decode cX8_readsGuest 154 = .ok (.iload 7, 2) := by decide +kernel
theorem dX8_readsGuest_156 : decode cX8_readsGuest 156 = .ok (.iadd, 1) := by decide +kernel
theorem dX8_readsGuest_157 : decode cX8_readsGuest 157 = .ok (.iaload, 1) := by decide +kernel
theorem dX8_readsGuest_158 : decode cX8_readsGuest 158 = .ok (.iload 5, 2) := by decide +kernel
theorem dX8_readsGuest_160 : decode cX8_readsGuest 160 = .ok (.if_icmp .eq 7, 3) := by decide +kernel
theorem dX8_readsGuest_163 : decode cX8_readsGuest 163 = .ok (.iconst 1, 1) := by decide +kernel
theorem dX8_readsGuest_164 : decode cX8_readsGuest 164 = .ok (.goto 4, 3) := by decide +kernel
theorem dX8_readsGuest_167 : decode cX8_readsGuest 167 = .ok (.iconst 0, 1) := by decide +kernel
theorem dX8_readsGuest_168 : decode cX8_readsGuest 168 = .ok (.istore 6, 2) := by decide +kernel
theorem dX8_readsGuest_170 : decode cX8_readsGuest 170 = .ok (.iinc 7 1, 3) := by decide +kernel
theorem dX8_readsGuest_173 : decode cX8_readsGuest 173 = .ok (.goto (-41), 3) := by decide +kernel
theorem dX8_readsGuest_176 : decode cX8_readsGuest 176 = .ok (.iload 6, 2) := by decide +kernel
theorem dX8_readsGuest_178 : decode cX8_readsGuest 178 = .ok (.ifCond .eq 14, 3) := by decide +kernel
theorem dX8_readsGuest_181 : decode cX8_readsGuest 181 = .ok (.aload_n 0, 1) := by decide +kernel
theorem dX8_readsGuest_182 : decode cX8_readsGuest 182 = .ok (.iload_n 1, 1) := by decide +kernel
theorem dX8_readsGuest_183 : decode cX8_readsGuest 183 = .ok (.iload_n 2, 1) := by decide +kernel
theorem dX8_readsGuest_184 : decode cX8_readsGuest 184 = .ok (.iload_n 3, 1) := by decide +kernel
theorem dX8_readsGuest_185 : decode cX8_readsGuest 185 = .ok (.iload 4, 2) := by decide +kernel
theorem dX8_readsGuest_187 : decode cX8_readsGuest 187 = .ok (.iload 5, 2) := by decide +kernel
theorem dX8_readsGuest_189 : decode cX8_readsGuest 189 = .ok (.invokevirtual 46, 3) := by decide +kernel
theorem dX8_readsGuest_192 : decode cX8_readsGuest 192 = .ok (.iload 6, 2) := by decide +kernel
theorem dX8_readsGuest_194 : decode cX8_readsGuest 194 = .ok (.ireturn, 1) := by decide +kernel
theorem dX8_readsItem_0 : decode cX8_readsItem 0 = .ok (.iload_n 1, 1) := by decide +kernel
theorem dX8_readsItem_1 : decode cX8_readsItem 1 = .ok (.bipush 110, 2) := by decide +kernel
theorem dX8_readsItem_3 : decode cX8_readsItem 3 = .ok (.if_icmp .ne 39, 3) := by decide +kernel
theorem dX8_readsItem_6 : decode cX8_readsItem 6 = .ok (.aload_n 0, 1) := by decide +kernel
theorem dX8_readsItem_7 : decode cX8_readsItem 7 = .ok (.iconst 2, 1) := by decide +kernel
theorem dX8_readsItem_8 : decode cX8_readsItem 8 = .ok (.bipush 6, 2) := by decide +kernel
theorem dX8_readsItem_10 : decode cX8_readsItem 10 = .ok (.bipush 59, 2) := by decide +kernel
theorem dX8_readsItem_12 : decode cX8_readsItem 12 = .ok (.invokevirtual 72, 3) := by decide +kernel
theorem dX8_readsItem_15 : decode cX8_readsItem 15 = .ok (.istore_n 2, 1) := by decide +kernel
theorem dX8_readsItem_16 : decode cX8_readsItem 16 = .ok (.aload_n 0, 1) := by decide +kernel
theorem dX8_readsItem_17 : decode cX8_readsItem 17 = .ok (.getfield 16, 3) := by decide +kernel
theorem dX8_readsItem_20 : decode cX8_readsItem 20 = .ok (.iconst 1, 1) := by decide +kernel
theorem dX8_readsItem_21 : decode cX8_readsItem 21 = .ok (.iload_n 2, 1) := by decide +kernel
theorem dX8_readsItem_22 : decode cX8_readsItem 22 = .ok (.iastore, 1) := by decide +kernel
theorem dX8_readsItem_23 : decode cX8_readsItem 23 = .ok (.iload_n 2, 1) := by decide +kernel
theorem dX8_readsItem_24 : decode cX8_readsItem 24 = .ok (.ifCond .le 16, 3) := by decide +kernel
theorem dX8_readsItem_27 : decode cX8_readsItem 27 = .ok (.aload_n 0, 1) := by decide +kernel
theorem dX8_readsItem_28 : decode cX8_readsItem 28 = .ok (.getfield 16, 3) := by decide +kernel
theorem dX8_readsItem_31 : decode cX8_readsItem 31 = .ok (.iconst 5, 1) := by decide +kernel
theorem dX8_readsItem_32 : decode cX8_readsItem 32 = .ok (.iaload, 1) := by decide +kernel
theorem dX8_readsItem_33 : decode cX8_readsItem 33 = .ok (.ifCond .ne 7, 3) := by decide +kernel
theorem dX8_readsItem_36 : decode cX8_readsItem 36 = .ok (.iconst 1, 1) := by decide +kernel
theorem dX8_readsItem_37 : decode cX8_readsItem 37 = .ok (.goto 4, 3) := by decide +kernel
theorem dX8_readsItem_40 : decode cX8_readsItem 40 = .ok (.iconst 0, 1) := by decide +kernel
theorem dX8_readsItem_41 : decode cX8_readsItem 41 = .ok (.ireturn, 1) := by decide +kernel
theorem dX8_readsItem_42 : decode cX8_readsItem 42 = .ok (.aload_n 0, 1) := by decide +kernel
theorem dX8_readsItem_43 : decode cX8_readsItem 43 = .ok (.getfield 16, 3) := by decide +kernel
theorem dX8_readsItem_46 : decode cX8_readsItem 46 = .ok (.iconst 5, 1) := by decide +kernel
theorem dX8_readsItem_47 : decode cX8_readsItem 47 = .ok (.iconst 1, 1) := by decide +kernel
theorem dX8_readsItem_48 : decode cX8_readsItem 48 = .ok (.iastore, 1) := by decide +kernel
theorem dX8_readsItem_49 : decode cX8_readsItem 49 = .ok (.iload_n 1, 1) := by decide +kernel
theorem dX8_readsItem_50 : decode cX8_readsItem 50 = .ok (.lookupswitch 153 #[(99, 93), (103, 42), (114, 123), (119, 47)], 42) := by decide +kernel
theorem dX8_readsItem_92 : decode cX8_readsItem 92 = .ok (.aload_n 0, 1) := by decide +kernel
theorem dX8_readsItem_93 : decode cX8_readsItem 93 = .ok (.invokevirtual 76, 3) := by decide +kernel
theorem dX8_readsItem_96 : decode cX8_readsItem 96 = .ok (.ireturn, 1) := by decide +kernel
theorem dX8_readsItem_97 : decode cX8_readsItem 97 = .ok (.aload_n 0, 1) := by decide +kernel
theorem dX8_readsItem_98 : decode cX8_readsItem 98 = .ok (.iconst 0, 1) := by decide +kernel
theorem dX8_readsItem_99 : decode cX8_readsItem 99 = .ok (.aload_n 0, 1) := by decide +kernel
theorem dX8_readsItem_100 : decode cX8_readsItem 100 = .ok (.getfield 16, 3) := by decide +kernel
theorem dX8_readsItem_103 : decode cX8_readsItem 103 = .ok (.iconst 1, 1) := by decide +kernel
theorem dX8_readsItem_104 : decode cX8_readsItem 104 = .ok (.iaload, 1) := by decide +kernel
theorem dX8_readsItem_105 : decode cX8_readsItem 105 = .ok (.iconst 2, 1) := by decide +kernel
theorem dX8_readsItem_106 : decode cX8_readsItem 106 = .ok (.isub, 1) := by decide +kernel
theorem dX8_readsItem_107 : decode cX8_readsItem 107 = .ok (.bipush 59, 2) := by decide +kernel
theorem dX8_readsItem_109 : decode cX8_readsItem 109 = .ok (.invokevirtual 72, 3) := by decide +kernel
theorem dX8_readsItem_112 : decode cX8_readsItem 112 = .ok (.istore_n 2, 1) := by decide +kernel
theorem dX8_readsItem_113 : decode cX8_readsItem 113 = .ok (.aload_n 0, 1) := by decide +kernel
theorem dX8_readsItem_114 : decode cX8_readsItem 114 = .ok (.getfield 16, 3) := by decide +kernel
theorem dX8_readsItem_117 : decode cX8_readsItem 117 = .ok (.iconst 4, 1) := by decide +kernel
theorem dX8_readsItem_118 : decode cX8_readsItem 118 = .ok (.dup2, 1) := by decide +kernel
theorem dX8_readsItem_119 : decode cX8_readsItem 119 = .ok (.iaload, 1) := by decide +kernel
theorem dX8_readsItem_120 : decode cX8_readsItem 120 = .ok (.iload_n 2, 1) := by decide +kernel
theorem dX8_readsItem_121 : decode cX8_readsItem 121 = .ok (.ifCond .ge 7, 3) := by decide +kernel
theorem dX8_readsItem_124 : decode cX8_readsItem 124 = .ok (.iconst 0, 1) := by decide +kernel
theorem dX8_readsItem_125 : decode cX8_readsItem 125 = .ok (.goto 6, 3) := by decide +kernel
theorem dX8_readsItem_128 : decode cX8_readsItem 128 = .ok (.iconst 1, 1) := by decide +kernel
theorem dX8_readsItem_129 : decode cX8_readsItem 129 = .ok (.iload_n 2, 1) := by decide +kernel
theorem dX8_readsItem_130 : decode cX8_readsItem 130 = .ok (.ishl, 1) := by decide +kernel
theorem dX8_readsItem_131 : decode cX8_readsItem 131 = .ok (.ior, 1) := by decide +kernel
theorem dX8_readsItem_132 : decode cX8_readsItem 132 = .ok (.iastore, 1) := by decide +kernel
theorem dX8_readsItem_133 : decode cX8_readsItem 133 = .ok (.iload_n 2, 1) := by decide +kernel
theorem dX8_readsItem_134 : decode cX8_readsItem 134 = .ok (.ifCond .lt 7, 3) := by decide +kernel
theorem dX8_readsItem_137 : decode cX8_readsItem 137 = .ok (.iconst 1, 1) := by decide +kernel
theorem dX8_readsItem_138 : decode cX8_readsItem 138 = .ok (.goto 4, 3) := by decide +kernel
theorem dX8_readsItem_141 : decode cX8_readsItem 141 = .ok (.iconst 0, 1) := by decide +kernel
theorem dX8_readsItem_142 : decode cX8_readsItem 142 = .ok (.ireturn, 1) := by decide +kernel
theorem dX8_readsItem_143 : decode cX8_readsItem 143 = .ok (.aload_n 0, 1) := by decide +kernel
theorem dX8_readsItem_144 : decode cX8_readsItem 144 = .ok (.getfield 16, 3) := by decide +kernel
theorem dX8_readsItem_147 : decode cX8_readsItem 147 = .ok (.iconst 2, 1) := by decide +kernel
theorem dX8_readsItem_148 : decode cX8_readsItem 148 = .ok (.aload_n 0, 1) := by decide +kernel
theorem dX8_readsItem_149 : decode cX8_readsItem 149 = .ok (.iconst 0, 1) := by decide +kernel
theorem dX8_readsItem_150 : decode cX8_readsItem 150 = .ok (.bipush 40, 2) := by decide +kernel
theorem dX8_readsItem_152 : decode cX8_readsItem 152 = .ok (.bipush 59, 2) := by decide +kernel
theorem dX8_readsItem_154 : decode cX8_readsItem 154 = .ok (.invokevirtual 72, 3) := by decide +kernel
theorem dX8_readsItem_157 : decode cX8_readsItem 157 = .ok (.iastore, 1) := by decide +kernel
theorem dX8_readsItem_158 : decode cX8_readsItem 158 = .ok (.aload_n 0, 1) := by decide +kernel
theorem dX8_readsItem_159 : decode cX8_readsItem 159 = .ok (.getfield 16, 3) := by decide +kernel
theorem dX8_readsItem_162 : decode cX8_readsItem 162 = .ok (.iconst 2, 1) := by decide +kernel
theorem dX8_readsItem_163 : decode cX8_readsItem 163 = .ok (.iaload, 1) := by decide +kernel
theorem dX8_readsItem_164 : decode cX8_readsItem 164 = .ok (.ifCond .lt 7, 3) := by decide +kernel
theorem dX8_readsItem_167 : decode cX8_readsItem 167 = .ok (.iconst 1, 1) := by decide +kernel
theorem dX8_readsItem_168 : decode cX8_readsItem 168 = .ok (.goto 4, 3) := by decide +kernel
theorem dX8_readsItem_171 : decode cX8_readsItem 171 = .ok (.iconst 0, 1) := by decide +kernel
theorem dX8_readsItem_172 : decode cX8_readsItem 172 = .ok (.ireturn, 1) := by decide +kernel
theorem dX8_readsItem_173 : decode cX8_readsItem 173 = .ok (.aload_n 0, 1) := by decide +kernel
theorem dX8_readsItem_174 : decode cX8_readsItem 174 = .ok (.getfield 16, 3) := by decide +kernel
theorem dX8_readsItem_177 : decode cX8_readsItem 177 = .ok (.iconst 3, 1) := by decide +kernel
theorem dX8_readsItem_178 : decode cX8_readsItem 178 = .ok (.aload_n 0, 1) := by decide +kernel
theorem dX8_readsItem_179 : decode cX8_readsItem 179 = .ok (.iconst 0, 1) := by decide +kernel
theorem dX8_readsItem_180 : decode cX8_readsItem 180 = .ok (.bipush 12, 2) := by decide +kernel
theorem dX8_readsItem_182 : decode cX8_readsItem 182 = .ok (.bipush 59, 2) := by decide +kernel
theorem dX8_readsItem_184 : decode cX8_readsItem 184 = .ok (.invokevirtual 72, 3) := by decide +kernel
theorem dX8_readsItem_187 : decode cX8_readsItem 187 = .ok (.iastore, 1) := by decide +kernel
theorem dX8_readsItem_188 : decode cX8_readsItem 188 = .ok (.aload_n 0, 1) := by decide +kernel
theorem dX8_readsItem_189 : decode cX8_readsItem 189 = .ok (.getfield 16, 3) := by decide +kernel
theorem dX8_readsItem_192 : decode cX8_readsItem 192 = .ok (.iconst 3, 1) := by decide +kernel
theorem dX8_readsItem_193 : decode cX8_readsItem 193 = .ok (.iaload, 1) := by decide +kernel
theorem dX8_readsItem_194 : decode cX8_readsItem 194 = .ok (.ifCond .lt 7, 3) := by decide +kernel
theorem dX8_readsItem_197 : decode cX8_readsItem 197 = .ok (.iconst 1, 1) := by decide +kernel
theorem dX8_readsItem_198 : decode cX8_readsItem 198 = .ok (.goto 4, 3) := by decide +kernel
theorem dX8_readsItem_201 : decode cX8_readsItem 201 = .ok (.iconst 0, 1) := by decide +kernel
theorem dX8_readsItem_202 : decode cX8_readsItem 202 = .ok (.ireturn, 1) := by decide +kernel
theorem dX8_readsItem_203 : decode cX8_readsItem 203 = .ok (.iconst 0, 1) := by decide +kernel
theorem dX8_readsItem_204 : decode cX8_readsItem 204 = .ok (.ireturn, 1) := by decide +kernel
theorem dX8_reads_0 : decode cX8_reads 0 = .ok (.aload_n 0, 1) := by decide +kernel
theorem dX8_reads_1 : decode cX8_reads 1 = .ok (.invokevirtual 43, 3) := by decide +kernel
theorem dX8_reads_4 : decode cX8_reads 4 = .ok (.aload_n 0, 1) := by decide +kernel
theorem dX8_reads_5 : decode cX8_reads 5 = .ok (.iconst 0, 1) := by decide +kernel
theorem dX8_reads_6 : decode cX8_reads 6 = .ok (.putfield 61, 3) := by decide +kernel
theorem dX8_reads_9 : decode cX8_reads 9 = .ok (.aload_n 0, 1) := by decide +kernel
theorem dX8_reads_10 : decode cX8_reads 10 = .ok (.getfield 61, 3) := by decide +kernel
theorem dX8_reads_13 : decode cX8_reads 13 = .ok (.aload_n 0, 1) := by decide +kernel
theorem dX8_reads_14 : decode cX8_reads 14 = .ok (.getfield 57, 3) := by decide +kernel
theorem dX8_reads_17 : decode cX8_reads 17 = .ok (.if_icmp .ge 36, 3) := by decide +kernel
theorem dX8_reads_20 : decode cX8_reads 20 = .ok (.aload_n 0, 1) := by decide +kernel
theorem dX8_reads_21 : decode cX8_reads 21 = .ok (.getfield 61, 3) := by decide +kernel
theorem dX8_reads_24 : decode cX8_reads 24 = .ok (.istore_n 1, 1) := by decide +kernel
theorem dX8_reads_25 : decode cX8_reads 25 = .ok (.aload_n 0, 1) := by decide +kernel
theorem dX8_reads_26 : decode cX8_reads 26 = .ok (.dup, 1) := by decide +kernel
theorem dX8_reads_27 : decode cX8_reads 27 = .ok (.getfield 61, 3) := by decide +kernel
theorem dX8_reads_30 : decode cX8_reads 30 = .ok (.iconst 1, 1) := by decide +kernel
theorem dX8_reads_31 : decode cX8_reads 31 = .ok (.iadd, 1) := by decide +kernel
theorem dX8_reads_32 : decode cX8_reads 32 = .ok (.putfield 61, 3) := by decide +kernel
theorem dX8_reads_35 : decode cX8_reads 35 = .ok (.aload_n 0, 1) := by decide +kernel
theorem dX8_reads_36 : decode cX8_reads 36 = .ok (.aload_n 0, 1) := by decide +kernel
theorem dX8_reads_37 : decode cX8_reads 37 = .ok (.getfield 7, 3) := by decide +kernel
theorem dX8_reads_40 : decode cX8_reads 40 = .ok (.iload_n 1, 1) := by decide +kernel
theorem dX8_reads_41 : decode cX8_reads 41 = .ok (.iaload, 1) := by decide +kernel
theorem dX8_reads_42 : decode cX8_reads 42 = .ok (.invokevirtual 80, 3) := by decide +kernel
theorem dX8_reads_45 : decode cX8_reads 45 = .ok (.ifCond .ne 5, 3) := by decide +kernel
theorem dX8_reads_48 : decode cX8_reads 48 = .ok (.iload_n 1, 1) := by decide +kernel
theorem dX8_reads_49 : decode cX8_reads 49 = .ok (.ireturn, 1) := by decide +kernel
theorem dX8_reads_50 : decode cX8_reads 50 = .ok (.goto (-41), 3) := by decide +kernel
theorem dX8_reads_53 : decode cX8_reads 53 = .ok (.bipush (-4), 2) := by decide +kernel
theorem dX8_reads_55 : decode cX8_reads 55 = .ok (.ireturn, 1) := by decide +kernel
theorem dX8_fault_0 : decode cX8_fault 0 = .ok (.aload_n 0, 1) := by decide +kernel
theorem dX8_fault_1 : decode cX8_fault 1 = .ok (.invokevirtual 83, 3) := by decide +kernel
theorem dX8_fault_4 : decode cX8_fault 4 = .ok (.ireturn, 1) := by decide +kernel
theorem dX8_lays_0 : decode cX8_lays 0 = .ok (.iconst 0, 1) := by decide +kernel
theorem dX8_lays_1 : decode cX8_lays 1 = .ok (.istore_n 1, 1) := by decide +kernel
theorem dX8_lays_2 : decode cX8_lays 2 = .ok (.iload_n 1, 1) := by decide +kernel
theorem dX8_lays_3 : decode cX8_lays 3 = .ok (.bipush 31, 2) := by decide +kernel
theorem dX8_lays_5 : decode cX8_lays 5 = .ok (.if_icmp .ge 21, 3) := by decide +kernel
theorem dX8_lays_8 : decode cX8_lays 8 = .ok (.aload_n 0, 1) := by decide +kernel
theorem dX8_lays_9 : decode cX8_lays 9 = .ok (.getfield 13, 3) := by decide +kernel
theorem dX8_lays_12 : decode cX8_lays 12 = .ok (.iload_n 1, 1) := by decide +kernel
theorem dX8_lays_13 : decode cX8_lays 13 = .ok (.aload_n 0, 1) := by decide +kernel
theorem dX8_lays_14 : decode cX8_lays 14 = .ok (.getfield 16, 3) := by decide +kernel
theorem dX8_lays_17 : decode cX8_lays 17 = .ok (.iload_n 1, 1) := by decide +kernel
theorem dX8_lays_18 : decode cX8_lays 18 = .ok (.iaload, 1) := by decide +kernel
theorem dX8_lays_19 : decode cX8_lays 19 = .ok (.iastore, 1) := by decide +kernel
theorem dX8_lays_20 : decode cX8_lays 20 = .ok (.iinc 1 1, 3) := by decide +kernel
theorem dX8_lays_23 : decode cX8_lays 23 = .ok (.goto (-21), 3) := by decide +kernel
theorem dX8_lays_26 : decode cX8_lays 26 = .ok (.iconst 0, 1) := by decide +kernel
theorem dX8_lays_27 : decode cX8_lays 27 = .ok (.istore_n 1, 1) := by decide +kernel
theorem dX8_lays_28 : decode cX8_lays 28 = .ok (.iload_n 1, 1) := by decide +kernel
theorem dX8_lays_29 : decode cX8_lays 29 = .ok (.bipush 10, 2) := by decide +kernel
theorem dX8_lays_31 : decode cX8_lays 31 = .ok (.if_icmp .ge 33, 3) := by decide +kernel
theorem dX8_lays_34 : decode cX8_lays 34 = .ok (.aload_n 0, 1) := by decide +kernel
theorem dX8_lays_35 : decode cX8_lays 35 = .ok (.getfield 19, 3) := by decide +kernel
theorem dX8_lays_38 : decode cX8_lays 38 = .ok (.iload_n 1, 1) := by decide +kernel
theorem dX8_lays_39 : decode cX8_lays 39 = .ok (.iload_n 1, 1) := by decide +kernel
theorem dX8_lays_40 : decode cX8_lays 40 = .ok (.iconst 5, 1) := by decide +kernel
theorem dX8_lays_41 : decode cX8_lays 41 = .ok (.if_icmp .ge 15, 3) := by decide +kernel
theorem dX8_lays_44 : decode cX8_lays 44 = .ok (.aload_n 0, 1) := by decide +kernel
theorem dX8_lays_45 : decode cX8_lays 45 = .ok (.getfield 13, 3) := by decide +kernel
theorem dX8_lays_48 : decode cX8_lays 48 = .ok (.bipush 26, 2) := by decide +kernel
theorem dX8_lays_50 : decode cX8_lays 50 = .ok (.iload_n 1, 1) := by decide +kernel
theorem dX8_lays_51 : decode cX8_lays 51 = .ok (.iadd, 1) := by decide +kernel
theorem dX8_lays_52 : decode cX8_lays 52 = .ok (.iaload, 1) := by decide +kernel
theorem dX8_lays_53 : decode cX8_lays 53 = .ok (.goto 4, 3) := by decide +kernel
theorem dX8_lays_56 : decode cX8_lays 56 = .ok (.iconst 0, 1) := by decide +kernel
theorem dX8_lays_57 : decode cX8_lays 57 = .ok (.iastore, 1) := by decide +kernel
theorem dX8_lays_58 : decode cX8_lays 58 = .ok (.iinc 1 1, 3) := by decide +kernel
theorem dX8_lays_61 : decode cX8_lays 61 = .ok (.goto (-33), 3) := by decide +kernel
theorem dX8_lays_64 : decode cX8_lays 64 = .ok (.aload_n 0, 1) := by decide +kernel
theorem dX8_lays_65 : decode cX8_lays 65 = .ok (.getfield 19, 3) := by decide +kernel
theorem dX8_lays_68 : decode cX8_lays 68 = .ok (.iconst 5, 1) := by decide +kernel
theorem dX8_lays_69 : decode cX8_lays 69 = .ok (.aload_n 0, 1) := by decide +kernel
theorem dX8_lays_70 : decode cX8_lays 70 = .ok (.getfield 13, 3) := by decide +kernel
theorem dX8_lays_73 : decode cX8_lays 73 = .ok (.iconst 4, 1) := by decide +kernel
theorem dX8_lays_74 : decode cX8_lays 74 = .ok (.iaload, 1) := by decide +kernel
theorem dX8_lays_75 : decode cX8_lays 75 = .ok (.iastore, 1) := by decide +kernel
theorem dX8_lays_76 : decode cX8_lays 76 = .ok (.aload_n 0, 1) := by decide +kernel
theorem dX8_lays_77 : decode cX8_lays 77 = .ok (.iconst 0, 1) := by decide +kernel
theorem dX8_lays_78 : decode cX8_lays 78 = .ok (.putfield 87, 3) := by decide +kernel
theorem dX8_lays_81 : decode cX8_lays 81 = .ok (.aload_n 0, 1) := by decide +kernel
theorem dX8_lays_82 : decode cX8_lays 82 = .ok (.iconst 0, 1) := by decide +kernel
theorem dX8_lays_83 : decode cX8_lays 83 = .ok (.putfield 90, 3) := by decide +kernel
theorem dX8_lays_86 : decode cX8_lays 86 = .ok (.aload_n 0, 1) := by decide +kernel
theorem dX8_lays_87 : decode cX8_lays 87 = .ok (.iconst 0, 1) := by decide +kernel
theorem dX8_lays_88 : decode cX8_lays 88 = .ok (.putfield 93, 3) := by decide +kernel
theorem dX8_lays_91 : decode cX8_lays 91 = .ok (.return_, 1) := by decide +kernel
theorem dX8_lay_0 : decode cX8_lay 0 = .ok (.aload_n 0, 1) := by decide +kernel
theorem dX8_lay_1 : decode cX8_lay 1 = .ok (.invokevirtual 83, 3) := by decide +kernel
theorem dX8_lay_4 : decode cX8_lay 4 = .ok (.bipush (-4), 2) := by decide +kernel
theorem dX8_lay_6 : decode cX8_lay 6 = .ok (.if_icmp .ne 12, 3) := by decide +kernel
theorem dX8_lay_9 : decode cX8_lay 9 = .ok (.aload_n 0, 1) := by decide +kernel
theorem dX8_lay_10 : decode cX8_lay 10 = .ok (.getfield 16, 3) := by decide +kernel
theorem dX8_lay_13 : decode cX8_lay 13 = .ok (.iconst 0, 1) := by decide +kernel
theorem dX8_lay_14 : decode cX8_lay 14 = .ok (.iaload, 1) := by decide +kernel
theorem dX8_lay_15 : decode cX8_lay 15 = .ok (.ifCond .ne 6, 3) := by decide +kernel
theorem dX8_lay_18 : decode cX8_lay 18 = .ok (.bipush (-2), 2) := by decide +kernel
theorem dX8_lay_20 : decode cX8_lay 20 = .ok (.ireturn, 1) := by decide +kernel
theorem dX8_lay_21 : decode cX8_lay 21 = .ok (.aload_n 0, 1) := by decide +kernel
theorem dX8_lay_22 : decode cX8_lay 22 = .ok (.invokevirtual 50, 3) := by decide +kernel
theorem dX8_lay_25 : decode cX8_lay 25 = .ok (.aload_n 0, 1) := by decide +kernel
theorem dX8_lay_26 : decode cX8_lay 26 = .ok (.getfield 13, 3) := by decide +kernel
theorem dX8_lay_29 : decode cX8_lay 29 = .ok (.iconst 0, 1) := by decide +kernel
theorem dX8_lay_30 : decode cX8_lay 30 = .ok (.iaload, 1) := by decide +kernel
theorem dX8_lay_31 : decode cX8_lay 31 = .ok (.ireturn, 1) := by decide +kernel
theorem dX8_asItIs_0 : decode cX8_asItIs 0 = .ok (.iconst 0, 1) := by decide +kernel
theorem dX8_asItIs_1 : decode cX8_asItIs 1 = .ok (.istore_n 1, 1) := by decide +kernel
theorem dX8_asItIs_2 : decode cX8_asItIs 2 = .ok (.iload_n 1, 1) := by decide +kernel
theorem dX8_asItIs_3 : decode cX8_asItIs 3 = .ok (.iconst 5, 1) := by decide +kernel
theorem dX8_asItIs_4 : decode cX8_asItIs 4 = .ok (.if_icmp .ge 36, 3) := by decide +kernel
theorem dX8_asItIs_7 : decode cX8_asItIs 7 = .ok (.aload_n 0, 1) := by decide +kernel
theorem dX8_asItIs_8 : decode cX8_asItIs 8 = .ok (.getfield 31, 3) := by decide +kernel
theorem dX8_asItIs_11 : decode cX8_asItIs 11 = .ok (.iload_n 1, 1) := by decide +kernel
theorem dX8_asItIs_12 : decode cX8_asItIs 12 = .ok (.aload_n 0, 1) := by decide +kernel
theorem dX8_asItIs_13 : decode cX8_asItIs 13 = .ok (.getfield 19, 3) := by decide +kernel
theorem dX8_asItIs_16 : decode cX8_asItIs 16 = .ok (.iload_n 1, 1) := by decide +kernel
theorem dX8_asItIs_17 : decode cX8_asItIs 17 = .ok (.iaload, 1) := by decide +kernel
theorem dX8_asItIs_18 : decode cX8_asItIs 18 = .ok (.iastore, 1) := by decide +kernel
theorem dX8_asItIs_19 : decode cX8_asItIs 19 = .ok (.aload_n 0, 1) := by decide +kernel
theorem dX8_asItIs_20 : decode cX8_asItIs 20 = .ok (.getfield 34, 3) := by decide +kernel
theorem dX8_asItIs_23 : decode cX8_asItIs 23 = .ok (.iload_n 1, 1) := by decide +kernel
theorem dX8_asItIs_24 : decode cX8_asItIs 24 = .ok (.aload_n 0, 1) := by decide +kernel
theorem dX8_asItIs_25 : decode cX8_asItIs 25 = .ok (.getfield 13, 3) := by decide +kernel
theorem dX8_asItIs_28 : decode cX8_asItIs 28 = .ok (.bipush 6, 2) := by decide +kernel
theorem dX8_asItIs_30 : decode cX8_asItIs 30 = .ok (.iload_n 1, 1) := by decide +kernel
theorem dX8_asItIs_31 : decode cX8_asItIs 31 = .ok (.iadd, 1) := by decide +kernel
theorem dX8_asItIs_32 : decode cX8_asItIs 32 = .ok (.iaload, 1) := by decide +kernel
theorem dX8_asItIs_33 : decode cX8_asItIs 33 = .ok (.iastore, 1) := by decide +kernel
theorem dX8_asItIs_34 : decode cX8_asItIs 34 = .ok (.iinc 1 1, 3) := by decide +kernel
theorem dX8_asItIs_37 : decode cX8_asItIs 37 = .ok (.goto (-35), 3) := by decide +kernel
theorem dX8_asItIs_40 : decode cX8_asItIs 40 = .ok (.aload_n 0, 1) := by decide +kernel
theorem dX8_asItIs_41 : decode cX8_asItIs 41 = .ok (.aload_n 0, 1) := by decide +kernel
theorem dX8_asItIs_42 : decode cX8_asItIs 42 = .ok (.getfield 19, 3) := by decide +kernel
theorem dX8_asItIs_45 : decode cX8_asItIs 45 = .ok (.iconst 5, 1) := by decide +kernel
theorem dX8_asItIs_46 : decode cX8_asItIs 46 = .ok (.iaload, 1) := by decide +kernel
theorem dX8_asItIs_47 : decode cX8_asItIs 47 = .ok (.putfield 96, 3) := by decide +kernel
theorem dX8_asItIs_50 : decode cX8_asItIs 50 = .ok (.aload_n 0, 1) := by decide +kernel
theorem dX8_asItIs_51 : decode cX8_asItIs 51 = .ok (.aload_n 0, 1) := by decide +kernel
theorem dX8_asItIs_52 : decode cX8_asItIs 52 = .ok (.getfield 19, 3) := by decide +kernel
theorem dX8_asItIs_55 : decode cX8_asItIs 55 = .ok (.bipush 6, 2) := by decide +kernel
theorem dX8_asItIs_57 : decode cX8_asItIs 57 = .ok (.iaload, 1) := by decide +kernel
theorem dX8_asItIs_58 : decode cX8_asItIs 58 = .ok (.putfield 99, 3) := by decide +kernel
theorem dX8_asItIs_61 : decode cX8_asItIs 61 = .ok (.aload_n 0, 1) := by decide +kernel
theorem dX8_asItIs_62 : decode cX8_asItIs 62 = .ok (.bipush 31, 2) := by decide +kernel
theorem dX8_asItIs_64 : decode cX8_asItIs 64 = .ok (.putfield 102, 3) := by decide +kernel
theorem dX8_asItIs_67 : decode cX8_asItIs 67 = .ok (.return_, 1) := by decide +kernel
theorem dX8_loud_0 : decode cX8_loud 0 = .ok (.aload_n 0, 1) := by decide +kernel
theorem dX8_loud_1 : decode cX8_loud 1 = .ok (.getfield 13, 3) := by decide +kernel
theorem dX8_loud_4 : decode cX8_loud 4 = .ok (.bipush 11, 2) := by decide +kernel
theorem dX8_loud_6 : decode cX8_loud 6 = .ok (.iload_n 1, 1) := by decide +kernel
theorem dX8_loud_7 : decode cX8_loud 7 = .ok (.iadd, 1) := by decide +kernel
theorem dX8_loud_8 : decode cX8_loud 8 = .ok (.iaload, 1) := by decide +kernel
theorem dX8_loud_9 : decode cX8_loud 9 = .ok (.istore_n 2, 1) := by decide +kernel
theorem dX8_loud_10 : decode cX8_loud 10 = .ok (.aload_n 0, 1) := by decide +kernel
theorem dX8_loud_11 : decode cX8_loud 11 = .ok (.getfield 34, 3) := by decide +kernel
theorem dX8_loud_14 : decode cX8_loud 14 = .ok (.iload_n 1, 1) := by decide +kernel
theorem dX8_loud_15 : decode cX8_loud 15 = .ok (.iaload, 1) := by decide +kernel
theorem dX8_loud_16 : decode cX8_loud 16 = .ok (.tableswitch 85 1 3 #[28, 53, 68], 28) := by decide +kernel
theorem dX8_loud_44 : decode cX8_loud 44 = .ok (.iload_n 2, 1) := by decide +kernel
theorem dX8_loud_45 : decode cX8_loud 45 = .ok (.iconst 2, 1) := by decide +kernel
theorem dX8_loud_46 : decode cX8_loud 46 = .ok (.bipush 7, 2) := by decide +kernel
theorem dX8_loud_48 : decode cX8_loud 48 = .ok (.aload_n 0, 1) := by decide +kernel
theorem dX8_loud_49 : decode cX8_loud 49 = .ok (.getfield 99, 3) := by decide +kernel
theorem dX8_loud_52 : decode cX8_loud 52 = .ok (.isub, 1) := by decide +kernel
theorem dX8_loud_53 : decode cX8_loud 53 = .ok (.imul, 1) := by decide +kernel
theorem dX8_loud_54 : decode cX8_loud 54 = .ok (.iadd, 1) := by decide +kernel
theorem dX8_loud_55 : decode cX8_loud 55 = .ok (.istore_n 2, 1) := by decide +kernel
theorem dX8_loud_56 : decode cX8_loud 56 = .ok (.iload_n 2, 1) := by decide +kernel
theorem dX8_loud_57 : decode cX8_loud 57 = .ok (.bipush 40, 2) := by decide +kernel
theorem dX8_loud_59 : decode cX8_loud 59 = .ok (.if_icmp .le 8, 3) := by decide +kernel
theorem dX8_loud_62 : decode cX8_loud 62 = .ok (.bipush 40, 2) := by decide +kernel
theorem dX8_loud_64 : decode cX8_loud 64 = .ok (.goto 4, 3) := by decide +kernel
theorem dX8_loud_67 : decode cX8_loud 67 = .ok (.iload_n 2, 1) := by decide +kernel
theorem dX8_loud_68 : decode cX8_loud 68 = .ok (.ireturn, 1) := by decide +kernel
theorem dX8_loud_69 : decode cX8_loud 69 = .ok (.aload_n 0, 1) := by decide +kernel
theorem dX8_loud_70 : decode cX8_loud 70 = .ok (.getfield 99, 3) := by decide +kernel
theorem dX8_loud_73 : decode cX8_loud 73 = .ok (.iconst 2, 1) := by decide +kernel
theorem dX8_loud_74 : decode cX8_loud 74 = .ok (.irem, 1) := by decide +kernel
theorem dX8_loud_75 : decode cX8_loud 75 = .ok (.ifCond .ne 7, 3) := by decide +kernel
theorem dX8_loud_78 : decode cX8_loud 78 = .ok (.iload_n 2, 1) := by decide +kernel
theorem dX8_loud_79 : decode cX8_loud 79 = .ok (.goto 4, 3) := by decide +kernel
theorem dX8_loud_82 : decode cX8_loud 82 = .ok (.iconst 0, 1) := by decide +kernel
theorem dX8_loud_83 : decode cX8_loud 83 = .ok (.ireturn, 1) := by decide +kernel
theorem dX8_loud_84 : decode cX8_loud 84 = .ok (.aload_n 0, 1) := by decide +kernel
theorem dX8_loud_85 : decode cX8_loud 85 = .ok (.getfield 99, 3) := by decide +kernel
theorem dX8_loud_88 : decode cX8_loud 88 = .ok (.iconst 3, 1) := by decide +kernel
theorem dX8_loud_89 : decode cX8_loud 89 = .ok (.if_icmp .ge 10, 3) := by decide +kernel
theorem dX8_loud_92 : decode cX8_loud 92 = .ok (.iload_n 2, 1) := by decide +kernel
theorem dX8_loud_93 : decode cX8_loud 93 = .ok (.bipush 10, 2) := by decide +kernel
theorem dX8_loud_95 : decode cX8_loud 95 = .ok (.iadd, 1) := by decide +kernel
theorem dX8_loud_96 : decode cX8_loud 96 = .ok (.goto 4, 3) := by decide +kernel
theorem dX8_loud_99 : decode cX8_loud 99 = .ok (.iload_n 2, 1) := by decide +kernel
theorem dX8_loud_100 : decode cX8_loud 100 = .ok (.ireturn, 1) := by decide +kernel
theorem dX8_loud_101 : decode cX8_loud 101 = .ok (.iload_n 2, 1) := by decide +kernel
theorem dX8_loud_102 : decode cX8_loud 102 = .ok (.ireturn, 1) := by decide +kernel
theorem dX8_isTuned_0 : decode cX8_isTuned 0 = .ok (.aload_n 0, 1) := by decide +kernel
theorem dX8_isTuned_1 : decode cX8_isTuned 1 = .ok (.getfield 13, 3) := by decide +kernel
theorem dX8_isTuned_4 : decode cX8_isTuned 4 = .ok (.bipush 16, 2) := by decide +kernel
theorem dX8_isTuned_6 : decode cX8_isTuned 6 = .ok (.iload_n 1, 1) := by decide +kernel
theorem dX8_isTuned_7 : decode cX8_isTuned 7 = .ok (.iadd, 1) := by decide +kernel
theorem dX8_isTuned_8 : decode cX8_isTuned 8 = .ok (.iaload, 1) := by decide +kernel
theorem dX8_isTuned_9 : decode cX8_isTuned 9 = .ok (.istore_n 3, 1) := by decide +kernel
theorem dX8_isTuned_10 : decode cX8_isTuned 10 = .ok (.aload_n 0, 1) := by decide +kernel
theorem dX8_isTuned_11 : decode cX8_isTuned 11 = .ok (.getfield 13, 3) := by decide +kernel
theorem dX8_isTuned_14 : decode cX8_isTuned 14 = .ok (.bipush 16, 2) := by decide +kernel
theorem dX8_isTuned_16 : decode cX8_isTuned 16 = .ok (.iload_n 2, 1) := by decide +kernel
theorem dX8_isTuned_17 : decode cX8_isTuned 17 = .ok (.iadd, 1) := by decide +kernel
theorem dX8_isTuned_18 : decode cX8_isTuned 18 = .ok (.iaload, 1) := by decide +kernel
theorem dX8_isTuned_19 : decode cX8_isTuned 19 = .ok (.istore 4, 2) := by decide +kernel
theorem dX8_isTuned_21 : decode cX8_isTuned 21 = .ok (.iload_n 3, 1) := by decide +kernel
theorem dX8_isTuned_22 : decode cX8_isTuned 22 = .ok (.iload 4, 2) := by decide +kernel
theorem dX8_isTuned_24 : decode cX8_isTuned 24 = .ok (.isub, 1) := by decide +kernel
theorem dX8_isTuned_25 : decode cX8_isTuned 25 = .ok (.aload_n 0, 1) := by decide +kernel
theorem dX8_isTuned_26 : decode cX8_isTuned 26 = .ok (.getfield 13, 3) := by decide +kernel
theorem dX8_isTuned_29 : decode cX8_isTuned 29 = .ok (.iconst 3, 1) := by decide +kernel
theorem dX8_isTuned_30 : decode cX8_isTuned 30 = .ok (.iaload, 1) := by decide +kernel
theorem dX8_isTuned_31 : decode cX8_isTuned 31 = .ok (.if_icmp .eq 29, 3) := by decide +kernel
theorem dX8_isTuned_34 : decode cX8_isTuned 34 = .ok (.iload 4, 2) := by decide +kernel
theorem dX8_isTuned_36 : decode cX8_isTuned 36 = .ok (.iload_n 3, 1) := by decide +kernel
theorem dX8_isTuned_37 : decode cX8_isTuned 37 = .ok (.isub, 1) := by decide +kernel
theorem dX8_isTuned_38 : decode cX8_isTuned 38 = .ok (.aload_n 0, 1) := by decide +kernel
theorem dX8_isTuned_39 : decode cX8_isTuned 39 = .ok (.getfield 13, 3) := by decide +kernel
theorem dX8_isTuned_42 : decode cX8_isTuned 42 = .ok (.iconst 3, 1) := by decide +kernel
theorem dX8_isTuned_43 : decode cX8_isTuned 43 = .ok (.iaload, 1) := by decide +kernel
theorem dX8_isTuned_44 : decode cX8_isTuned 44 = .ok (.if_icmp .eq 16, 3) := by decide +kernel
theorem dX8_isTuned_47 : decode cX8_isTuned 47 = .ok (.iload_n 3, 1) := by decide +kernel
theorem dX8_isTuned_48 : decode cX8_isTuned 48 = .ok (.iload 4, 2) := by decide +kernel
theorem dX8_isTuned_50 : decode cX8_isTuned 50 = .ok (.iadd, 1) := by decide +kernel
theorem dX8_isTuned_51 : decode cX8_isTuned 51 = .ok (.aload_n 0, 1) := by decide +kernel
theorem dX8_isTuned_52 : decode cX8_isTuned 52 = .ok (.getfield 13, 3) := by decide +kernel
theorem dX8_isTuned_55 : decode cX8_isTuned 55 = .ok (.iconst 3, 1) := by decide +kernel
theorem dX8_isTuned_56 : decode cX8_isTuned 56 = .ok (.iaload, 1) := by decide +kernel
theorem dX8_isTuned_57 : decode cX8_isTuned 57 = .ok (.if_icmp .ne 7, 3) := by decide +kernel
theorem dX8_isTuned_60 : decode cX8_isTuned 60 = .ok (.iconst 1, 1) := by decide +kernel
theorem dX8_isTuned_61 : decode cX8_isTuned 61 = .ok (.goto 4, 3) := by decide +kernel
theorem dX8_isTuned_64 : decode cX8_isTuned 64 = .ok (.iconst 0, 1) := by decide +kernel
theorem dX8_isTuned_65 : decode cX8_isTuned 65 = .ok (.ireturn, 1) := by decide +kernel
theorem dX8_isBeside_0 : decode cX8_isBeside 0 = .ok (.aload_n 0, 1) := by decide +kernel
theorem dX8_isBeside_1 : decode cX8_isBeside 1 = .ok (.getfield 31, 3) := by decide +kernel
theorem dX8_isBeside_4 : decode cX8_isBeside 4 = .ok (.iload_n 1, 1) := by decide +kernel
theorem dX8_isBeside_5 : decode cX8_isBeside 5 = .ok (.iaload, 1) := by decide +kernel
theorem dX8_isBeside_6 : decode cX8_isBeside 6 = .ok (.aload_n 0, 1) := by decide +kernel
theorem dX8_isBeside_7 : decode cX8_isBeside 7 = .ok (.getfield 31, 3) := by decide +kernel
theorem dX8_isBeside_10 : decode cX8_isBeside 10 = .ok (.iload_n 2, 1) := by decide +kernel
theorem dX8_isBeside_11 : decode cX8_isBeside 11 = .ok (.iaload, 1) := by decide +kernel
theorem dX8_isBeside_12 : decode cX8_isBeside 12 = .ok (.isub, 1) := by decide +kernel
theorem dX8_isBeside_13 : decode cX8_isBeside 13 = .ok (.iconst 1, 1) := by decide +kernel
theorem dX8_isBeside_14 : decode cX8_isBeside 14 = .ok (.if_icmp .eq 20, 3) := by decide +kernel
theorem dX8_isBeside_17 : decode cX8_isBeside 17 = .ok (.aload_n 0, 1) := by decide +kernel
theorem dX8_isBeside_18 : decode cX8_isBeside 18 = .ok (.getfield 31, 3) := by decide +kernel
theorem dX8_isBeside_21 : decode cX8_isBeside 21 = .ok (.iload_n 2, 1) := by decide +kernel
theorem dX8_isBeside_22 : decode cX8_isBeside 22 = .ok (.iaload, 1) := by decide +kernel
theorem dX8_isBeside_23 : decode cX8_isBeside 23 = .ok (.aload_n 0, 1) := by decide +kernel
theorem dX8_isBeside_24 : decode cX8_isBeside 24 = .ok (.getfield 31, 3) := by decide +kernel
theorem dX8_isBeside_27 : decode cX8_isBeside 27 = .ok (.iload_n 1, 1) := by decide +kernel
theorem dX8_isBeside_28 : decode cX8_isBeside 28 = .ok (.iaload, 1) := by decide +kernel
theorem dX8_isBeside_29 : decode cX8_isBeside 29 = .ok (.isub, 1) := by decide +kernel
theorem dX8_isBeside_30 : decode cX8_isBeside 30 = .ok (.iconst 1, 1) := by decide +kernel
theorem dX8_isBeside_31 : decode cX8_isBeside 31 = .ok (.if_icmp .ne 7, 3) := by decide +kernel
theorem dX8_isBeside_34 : decode cX8_isBeside 34 = .ok (.iconst 1, 1) := by decide +kernel
theorem dX8_isBeside_35 : decode cX8_isBeside 35 = .ok (.goto 4, 3) := by decide +kernel
theorem dX8_isBeside_38 : decode cX8_isBeside 38 = .ok (.iconst 0, 1) := by decide +kernel
theorem dX8_isBeside_39 : decode cX8_isBeside 39 = .ok (.ireturn, 1) := by decide +kernel
theorem dX8_hearsOf_0 : decode cX8_hearsOf 0 = .ok (.iconst 0, 1) := by decide +kernel
theorem dX8_hearsOf_1 : decode cX8_hearsOf 1 = .ok (.istore_n 2, 1) := by decide +kernel
theorem dX8_hearsOf_2 : decode cX8_hearsOf 2 = .ok (.iconst 0, 1) := by decide +kernel
theorem dX8_hearsOf_3 : decode cX8_hearsOf 3 = .ok (.istore_n 3, 1) := by decide +kernel
theorem dX8_hearsOf_4 : decode cX8_hearsOf 4 = .ok (.iload_n 3, 1) := by decide +kernel
theorem dX8_hearsOf_5 : decode cX8_hearsOf 5 = .ok (.aload_n 0, 1) := by decide +kernel
theorem dX8_hearsOf_6 : decode cX8_hearsOf 6 = .ok (.getfield 13, 3) := by decide +kernel
theorem dX8_hearsOf_9 : decode cX8_hearsOf 9 = .ok (.iconst 0, 1) := by decide +kernel
theorem dX8_hearsOf_10 : decode cX8_hearsOf 10 = .ok (.iaload, 1) := by decide +kernel
theorem dX8_hearsOf_11 : decode cX8_hearsOf 11 = .ok (.if_icmp .ge 108, 3) := by decide +kernel
theorem dX8_hearsOf_14 : decode cX8_hearsOf 14 = .ok (.aload_n 0, 1) := by decide +kernel
theorem dX8_hearsOf_15 : decode cX8_hearsOf 15 = .ok (.iload_n 1, 1) := by decide +kernel
theorem dX8_hearsOf_16 : decode cX8_hearsOf 16 = .ok (.iload_n 3, 1) := by decide +kernel
theorem dX8_hearsOf_17 : decode cX8_hearsOf 17 = .ok (.invokevirtual 105, 3) := by decide +kernel
theorem dX8_hearsOf_20 : decode cX8_hearsOf 20 = .ok (.ifCond .eq 93, 3) := by decide +kernel
theorem dX8_hearsOf_23 : decode cX8_hearsOf 23 = .ok (.aload_n 0, 1) := by decide +kernel
theorem dX8_hearsOf_24 : decode cX8_hearsOf 24 = .ok (.getfield 102, 3) := by decide +kernel
theorem dX8_hearsOf_27 : decode cX8_hearsOf 27 = .ok (.iload_n 3, 1) := by decide +kernel
theorem dX8_hearsOf_28 : decode cX8_hearsOf 28 = .ok (.ishr, 1) := by decide +kernel
theorem dX8_hearsOf_29 : decode cX8_hearsOf 29 = .ok (.iconst 1, 1) := by decide +kernel
theorem dX8_hearsOf_30 : decode cX8_hearsOf 30 = .ok (.iand, 1) := by decide +kernel
theorem dX8_hearsOf_31 : decode cX8_hearsOf 31 = .ok (.iconst 1, 1) := by decide +kernel
theorem dX8_hearsOf_32 : decode cX8_hearsOf 32 = .ok (.if_icmp .ne 81, 3) := by decide +kernel
theorem dX8_hearsOf_35 : decode cX8_hearsOf 35 = .ok (.aload_n 0, 1) := by decide +kernel
theorem dX8_hearsOf_36 : decode cX8_hearsOf 36 = .ok (.getfield 31, 3) := by decide +kernel
theorem dX8_hearsOf_39 : decode cX8_hearsOf 39 = .ok (.iload_n 1, 1) := by decide +kernel
theorem dX8_hearsOf_40 : decode cX8_hearsOf 40 = .ok (.iaload, 1) := by decide +kernel
theorem dX8_hearsOf_41 : decode cX8_hearsOf 41 = .ok (.aload_n 0, 1) := by decide +kernel
theorem dX8_hearsOf_42 : decode cX8_hearsOf 42 = .ok (.getfield 31, 3) := by decide +kernel
theorem dX8_hearsOf_45 : decode cX8_hearsOf 45 = .ok (.iload_n 3, 1) := by decide +kernel
theorem dX8_hearsOf_46 : decode cX8_hearsOf 46 = .ok (.iaload, 1) := by decide +kernel
theorem dX8_hearsOf_47 : decode cX8_hearsOf 47 = .ok (.if_icmp .ge 12, 3) := by decide +kernel
theorem dX8_hearsOf_50 : decode cX8_hearsOf 50 = .ok (.aload_n 0, 1) := by decide +kernel
theorem dX8_hearsOf_51 : decode cX8_hearsOf 51 = .ok (.getfield 31, 3) := by decide +kernel
theorem dX8_hearsOf_54 : decode cX8_hearsOf 54 = .ok (.iload_n 1, 1) := by decide +kernel
theorem dX8_hearsOf_55 : decode cX8_hearsOf 55 = .ok (.iaload, 1) := by decide +kernel
theorem dX8_hearsOf_56 : decode cX8_hearsOf 56 = .ok (.goto 9, 3) := by decide +kernel
theorem dX8_hearsOf_59 : decode cX8_hearsOf 59 = .ok (.aload_n 0, 1) := by decide +kernel
theorem dX8_hearsOf_60 : decode cX8_hearsOf 60 = .ok (.getfield 31, 3) := by decide +kernel
theorem dX8_hearsOf_63 : decode cX8_hearsOf 63 = .ok (.iload_n 3, 1) := by decide +kernel
theorem dX8_hearsOf_64 : decode cX8_hearsOf 64 = .ok (.iaload, 1) := by decide +kernel
theorem dX8_hearsOf_65 : decode cX8_hearsOf 65 = .ok (.istore 4, 2) := by decide +kernel
theorem dX8_hearsOf_67 : decode cX8_hearsOf 67 = .ok (.iload_n 2, 1) := by decide +kernel
theorem dX8_hearsOf_68 : decode cX8_hearsOf 68 = .ok (.aload_n 0, 1) := by decide +kernel
theorem dX8_hearsOf_69 : decode cX8_hearsOf 69 = .ok (.getfield 96, 3) := by decide +kernel
theorem dX8_hearsOf_72 : decode cX8_hearsOf 72 = .ok (.iload 4, 2) := by decide +kernel
theorem dX8_hearsOf_74 : decode cX8_hearsOf 74 = .ok (.ishr, 1) := by decide +kernel
theorem dX8_hearsOf_75 : decode cX8_hearsOf 75 = .ok (.iconst 1, 1) := by decide +kernel
theorem dX8_hearsOf_76 : decode cX8_hearsOf 76 = .ok (.iand, 1) := by decide +kernel
theorem dX8_hearsOf_77 : decode cX8_hearsOf 77 = .ok (.iconst 1, 1) := by decide +kernel
theorem dX8_hearsOf_78 : decode cX8_hearsOf 78 = .ok (.if_icmp .ne 13, 3) := by decide +kernel
theorem dX8_hearsOf_81 : decode cX8_hearsOf 81 = .ok (.aload_n 0, 1) := by decide +kernel
theorem dX8_hearsOf_82 : decode cX8_hearsOf 82 = .ok (.iload_n 3, 1) := by decide +kernel
theorem dX8_hearsOf_83 : decode cX8_hearsOf 83 = .ok (.invokevirtual 109, 3) := by decide +kernel
theorem dX8_hearsOf_86 : decode cX8_hearsOf 86 = .ok (.iconst 2, 1) := by decide +kernel
theorem dX8_hearsOf_87 : decode cX8_hearsOf 87 = .ok (.idiv, 1) := by decide +kernel
theorem dX8_hearsOf_88 : decode cX8_hearsOf 88 = .ok (.goto 8, 3) := by decide +kernel
theorem dX8_hearsOf_91 : decode cX8_hearsOf 91 = .ok (.aload_n 0, 1) := by decide +kernel
theorem dX8_hearsOf_92 : decode cX8_hearsOf 92 = .ok (.iload_n 3, 1) := by decide +kernel
theorem dX8_hearsOf_93 : decode cX8_hearsOf 93 = .ok (.invokevirtual 109, 3) := by decide +kernel
theorem dX8_hearsOf_96 : decode cX8_hearsOf 96 = .ok (.aload_n 0, 1) := by decide +kernel
theorem dX8_hearsOf_97 : decode cX8_hearsOf 97 = .ok (.iload_n 1, 1) := by decide +kernel
theorem dX8_hearsOf_98 : decode cX8_hearsOf 98 = .ok (.iload_n 3, 1) := by decide +kernel
theorem dX8_hearsOf_99 : decode cX8_hearsOf 99 = .ok (.invokevirtual 112, 3) := by decide +kernel
theorem dX8_hearsOf_102 : decode cX8_hearsOf 102 = .ok (.ifCond .eq 7, 3) := by decide +kernel
theorem dX8_hearsOf_105 : decode cX8_hearsOf 105 = .ok (.iconst 4, 1) := by decide +kernel
theorem dX8_hearsOf_106 : decode cX8_hearsOf 106 = .ok (.goto 4, 3) := by decide +kernel
theorem dX8_hearsOf_109 : decode cX8_hearsOf 109 = .ok (.iconst 0, 1) := by decide +kernel
theorem dX8_hearsOf_110 : decode cX8_hearsOf 110 = .ok (.iadd, 1) := by decide +kernel
theorem dX8_hearsOf_111 : decode cX8_hearsOf 111 = .ok (.iadd, 1) := by decide +kernel
theorem dX8_hearsOf_112 : decode cX8_hearsOf 112 = .ok (.istore_n 2, 1) := by decide +kernel
theorem dX8_hearsOf_113 : decode cX8_hearsOf 113 = .ok (.iinc 3 1, 3) := by decide +kernel
theorem dX8_hearsOf_116 : decode cX8_hearsOf 116 = .ok (.goto (-112), 3) := by decide +kernel
theorem dX8_hearsOf_119 : decode cX8_hearsOf 119 = .ok (.iload_n 2, 1) := by decide +kernel
theorem dX8_hearsOf_120 : decode cX8_hearsOf 120 = .ok (.ireturn, 1) := by decide +kernel
theorem dX8_wakes_0 : decode cX8_wakes 0 = .ok (.iconst 0, 1) := by decide +kernel
theorem dX8_wakes_1 : decode cX8_wakes 1 = .ok (.istore_n 1, 1) := by decide +kernel
theorem dX8_wakes_2 : decode cX8_wakes 2 = .ok (.iconst 0, 1) := by decide +kernel
theorem dX8_wakes_3 : decode cX8_wakes 3 = .ok (.istore_n 2, 1) := by decide +kernel
theorem dX8_wakes_4 : decode cX8_wakes 4 = .ok (.iload_n 2, 1) := by decide +kernel
theorem dX8_wakes_5 : decode cX8_wakes 5 = .ok (.aload_n 0, 1) := by decide +kernel
theorem dX8_wakes_6 : decode cX8_wakes 6 = .ok (.getfield 13, 3) := by decide +kernel
theorem dX8_wakes_9 : decode cX8_wakes 9 = .ok (.iconst 0, 1) := by decide +kernel
theorem dX8_wakes_10 : decode cX8_wakes 10 = .ok (.iaload, 1) := by decide +kernel
theorem dX8_wakes_11 : decode cX8_wakes 11 = .ok (.if_icmp .ge 36, 3) := by decide +kernel
theorem dX8_wakes_14 : decode cX8_wakes 14 = .ok (.iload_n 1, 1) := by decide +kernel
theorem dX8_wakes_15 : decode cX8_wakes 15 = .ok (.aload_n 0, 1) := by decide +kernel
theorem dX8_wakes_16 : decode cX8_wakes 16 = .ok (.iload_n 2, 1) := by decide +kernel
theorem dX8_wakes_17 : decode cX8_wakes 17 = .ok (.invokevirtual 115, 3) := by decide +kernel
theorem dX8_wakes_20 : decode cX8_wakes 20 = .ok (.aload_n 0, 1) := by decide +kernel
theorem dX8_wakes_21 : decode cX8_wakes 21 = .ok (.getfield 13, 3) := by decide +kernel
theorem dX8_wakes_24 : decode cX8_wakes 24 = .ok (.bipush 21, 2) := by decide +kernel
theorem dX8_wakes_26 : decode cX8_wakes 26 = .ok (.iload_n 2, 1) := by decide +kernel
theorem dX8_wakes_27 : decode cX8_wakes 27 = .ok (.iadd, 1) := by decide +kernel
theorem dX8_wakes_28 : decode cX8_wakes 28 = .ok (.iaload, 1) := by decide +kernel
theorem dX8_wakes_29 : decode cX8_wakes 29 = .ok (.if_icmp .lt 9, 3) := by decide +kernel
theorem dX8_wakes_32 : decode cX8_wakes 32 = .ok (.iconst 1, 1) := by decide +kernel
theorem dX8_wakes_33 : decode cX8_wakes 33 = .ok (.iload_n 2, 1) := by decide +kernel
theorem dX8_wakes_34 : decode cX8_wakes 34 = .ok (.ishl, 1) := by decide +kernel
theorem dX8_wakes_35 : decode cX8_wakes 35 = .ok (.goto 4, 3) := by decide +kernel
theorem dX8_wakes_38 : decode cX8_wakes 38 = .ok (.iconst 0, 1) := by decide +kernel
theorem dX8_wakes_39 : decode cX8_wakes 39 = .ok (.ior, 1) := by decide +kernel
theorem dX8_wakes_40 : decode cX8_wakes 40 = .ok (.istore_n 1, 1) := by decide +kernel
theorem dX8_wakes_41 : decode cX8_wakes 41 = .ok (.iinc 2 1, 3) := by decide +kernel
theorem dX8_wakes_44 : decode cX8_wakes 44 = .ok (.goto (-40), 3) := by decide +kernel
theorem dX8_wakes_47 : decode cX8_wakes 47 = .ok (.iload_n 1, 1) := by decide +kernel
theorem dX8_wakes_48 : decode cX8_wakes 48 = .ok (.ireturn, 1) := by decide +kernel
theorem dX8_guest_0 : decode cX8_guest 0 = .ok (.aload_n 0, 1) := by decide +kernel
theorem dX8_guest_1 : decode cX8_guest 1 = .ok (.iload_n 1, 1) := by decide +kernel
theorem dX8_guest_2 : decode cX8_guest 2 = .ok (.invokevirtual 118, 3) := by decide +kernel
theorem dX8_guest_5 : decode cX8_guest 5 = .ok (.ifCond .ne 5, 3) := by decide +kernel
theorem dX8_guest_8 : decode cX8_guest 8 = .ok (.iconst (-1), 1) := by decide +kernel
theorem dX8_guest_9 : decode cX8_guest 9 = .ok (.ireturn, 1) := by decide +kernel
theorem dX8_guest_10 : decode cX8_guest 10 = .ok (.aload_n 0, 1) := by decide +kernel
theorem dX8_guest_11 : decode cX8_guest 11 = .ok (.invokevirtual 121, 3) := by decide +kernel
theorem dX8_guest_14 : decode cX8_guest 14 = .ok (.iload_n 2, 1) := by decide +kernel
theorem dX8_guest_15 : decode cX8_guest 15 = .ok (.tableswitch 113 0 7 #[45, 55, 65, 75, 85, 92, 98, 104], 45) := by decide +kernel
theorem dX8_guest_60 : decode cX8_guest 60 = .ok (.aload_n 0, 1) := by decide +kernel
theorem dX8_guest_61 : decode cX8_guest 61 = .ok (.getfield 13, 3) := by decide +kernel
theorem dX8_guest_64 : decode cX8_guest 64 = .ok (.bipush 6, 2) := by decide +kernel
theorem dX8_guest_66 : decode cX8_guest 66 = .ok (.iload_n 1, 1) := by decide +kernel
theorem dX8_guest_67 : decode cX8_guest 67 = .ok (.iadd, 1) := by decide +kernel
theorem dX8_guest_68 : decode cX8_guest 68 = .ok (.iaload, 1) := by decide +kernel
theorem dX8_guest_69 : decode cX8_guest 69 = .ok (.ireturn, 1) := by decide +kernel
theorem dX8_guest_70 : decode cX8_guest 70 = .ok (.aload_n 0, 1) := by decide +kernel
theorem dX8_guest_71 : decode cX8_guest 71 = .ok (.getfield 13, 3) := by decide +kernel
theorem dX8_guest_74 : decode cX8_guest 74 = .ok (.bipush 11, 2) := by decide +kernel
theorem dX8_guest_76 : decode cX8_guest 76 = .ok (.iload_n 1, 1) := by decide +kernel
theorem dX8_guest_77 : decode cX8_guest 77 = .ok (.iadd, 1) := by decide +kernel
theorem dX8_guest_78 : decode cX8_guest 78 = .ok (.iaload, 1) := by decide +kernel
theorem dX8_guest_79 : decode cX8_guest 79 = .ok (.ireturn, 1) := by decide +kernel
theorem dX8_guest_80 : decode cX8_guest 80 = .ok (.aload_n 0, 1) := by decide +kernel
theorem dX8_guest_81 : decode cX8_guest 81 = .ok (.getfield 13, 3) := by decide +kernel
theorem dX8_guest_84 : decode cX8_guest 84 = .ok (.bipush 16, 2) := by decide +kernel
theorem dX8_guest_86 : decode cX8_guest 86 = .ok (.iload_n 1, 1) := by decide +kernel
theorem dX8_guest_87 : decode cX8_guest 87 = .ok (.iadd, 1) := by decide +kernel
theorem dX8_guest_88 : decode cX8_guest 88 = .ok (.iaload, 1) := by decide +kernel
theorem dX8_guest_89 : decode cX8_guest 89 = .ok (.ireturn, 1) := by decide +kernel
theorem dX8_guest_90 : decode cX8_guest 90 = .ok (.aload_n 0, 1) := by decide +kernel
theorem dX8_guest_91 : decode cX8_guest 91 = .ok (.getfield 13, 3) := by decide +kernel
theorem dX8_guest_94 : decode cX8_guest 94 = .ok (.bipush 21, 2) := by decide +kernel
theorem dX8_guest_96 : decode cX8_guest 96 = .ok (.iload_n 1, 1) := by decide +kernel
theorem dX8_guest_97 : decode cX8_guest 97 = .ok (.iadd, 1) := by decide +kernel
theorem dX8_guest_98 : decode cX8_guest 98 = .ok (.iaload, 1) := by decide +kernel
theorem dX8_guest_99 : decode cX8_guest 99 = .ok (.ireturn, 1) := by decide +kernel
theorem dX8_guest_100 : decode cX8_guest 100 = .ok (.aload_n 0, 1) := by decide +kernel
theorem dX8_guest_101 : decode cX8_guest 101 = .ok (.getfield 19, 3) := by decide +kernel
theorem dX8_guest_104 : decode cX8_guest 104 = .ok (.iload_n 1, 1) := by decide +kernel
theorem dX8_guest_105 : decode cX8_guest 105 = .ok (.iaload, 1) := by decide +kernel
theorem dX8_guest_106 : decode cX8_guest 106 = .ok (.ireturn, 1) := by decide +kernel
theorem dX8_guest_107 : decode cX8_guest 107 = .ok (.aload_n 0, 1) := by decide +kernel
theorem dX8_guest_108 : decode cX8_guest 108 = .ok (.iload_n 1, 1) := by decide +kernel
theorem dX8_guest_109 : decode cX8_guest 109 = .ok (.invokevirtual 109, 3) := by decide +kernel
theorem dX8_guest_112 : decode cX8_guest 112 = .ok (.ireturn, 1) := by decide +kernel
theorem dX8_guest_113 : decode cX8_guest 113 = .ok (.aload_n 0, 1) := by decide +kernel
theorem dX8_guest_114 : decode cX8_guest 114 = .ok (.iload_n 1, 1) := by decide +kernel
theorem dX8_guest_115 : decode cX8_guest 115 = .ok (.invokevirtual 115, 3) := by decide +kernel
theorem dX8_guest_118 : decode cX8_guest 118 = .ok (.ireturn, 1) := by decide +kernel
theorem dX8_guest_119 : decode cX8_guest 119 = .ok (.aload_n 0, 1) := by decide +kernel
theorem dX8_guest_120 : decode cX8_guest 120 = .ok (.invokevirtual 124, 3) := by decide +kernel
theorem dX8_guest_123 : decode cX8_guest 123 = .ok (.iload_n 1, 1) := by decide +kernel
theorem dX8_guest_124 : decode cX8_guest 124 = .ok (.ishr, 1) := by decide +kernel
theorem dX8_guest_125 : decode cX8_guest 125 = .ok (.iconst 1, 1) := by decide +kernel
theorem dX8_guest_126 : decode cX8_guest 126 = .ok (.iand, 1) := by decide +kernel
theorem dX8_guest_127 : decode cX8_guest 127 = .ok (.ireturn, 1) := by decide +kernel
theorem dX8_guest_128 : decode cX8_guest 128 = .ok (.iconst (-1), 1) := by decide +kernel
theorem dX8_guest_129 : decode cX8_guest 129 = .ok (.ireturn, 1) := by decide +kernel
theorem dX8_inBed_0 : decode cX8_inBed 0 = .ok (.bipush (-4), 2) := by decide +kernel
theorem dX8_inBed_2 : decode cX8_inBed 2 = .ok (.istore_n 2, 1) := by decide +kernel
theorem dX8_inBed_3 : decode cX8_inBed 3 = .ok (.iconst 0, 1) := by decide +kernel
theorem dX8_inBed_4 : decode cX8_inBed 4 = .ok (.istore_n 3, 1) := by decide +kernel
theorem dX8_inBed_5 : decode cX8_inBed 5 = .ok (.iload_n 3, 1) := by decide +kernel
theorem dX8_inBed_6 : decode cX8_inBed 6 = .ok (.aload_n 0, 1) := by decide +kernel
theorem dX8_inBed_7 : decode cX8_inBed 7 = .ok (.getfield 13, 3) := by decide +kernel
theorem dX8_inBed_10 : decode cX8_inBed 10 = .ok (.iconst 0, 1) := by decide +kernel
theorem dX8_inBed_11 : decode cX8_inBed 11 = .ok (.iaload, 1) := by decide +kernel
theorem dX8_inBed_12 : decode cX8_inBed 12 = .ok (.if_icmp .ge 25, 3) := by decide +kernel
theorem dX8_inBed_15 : decode cX8_inBed 15 = .ok (.aload_n 0, 1) := by decide +kernel
theorem dX8_inBed_16 : decode cX8_inBed 16 = .ok (.getfield 19, 3) := by decide +kernel
theorem dX8_inBed_19 : decode cX8_inBed 19 = .ok (.iload_n 3, 1) := by decide +kernel
theorem dX8_inBed_20 : decode cX8_inBed 20 = .ok (.iaload, 1) := by decide +kernel
theorem dX8_inBed_21 : decode cX8_inBed 21 = .ok (.iload_n 1, 1) := by decide +kernel
theorem dX8_inBed_22 : decode cX8_inBed 22 = .ok (.if_icmp .ne 7, 3) := by decide +kernel
theorem dX8_inBed_25 : decode cX8_inBed 25 = .ok (.iload_n 3, 1) := by decide +kernel
theorem dX8_inBed_26 : decode cX8_inBed 26 = .ok (.goto 4, 3) := by decide +kernel
theorem dX8_inBed_29 : decode cX8_inBed 29 = .ok (.iload_n 2, 1) := by decide +kernel
theorem dX8_inBed_30 : decode cX8_inBed 30 = .ok (.istore_n 2, 1) := by decide +kernel
theorem dX8_inBed_31 : decode cX8_inBed 31 = .ok (.iinc 3 1, 3) := by decide +kernel
theorem dX8_inBed_34 : decode cX8_inBed 34 = .ok (.goto (-29), 3) := by decide +kernel
theorem dX8_inBed_37 : decode cX8_inBed 37 = .ok (.iload_n 2, 1) := by decide +kernel
theorem dX8_inBed_38 : decode cX8_inBed 38 = .ok (.ireturn, 1) := by decide +kernel
theorem dX8_bed_0 : decode cX8_bed 0 = .ok (.aload_n 0, 1) := by decide +kernel
theorem dX8_bed_1 : decode cX8_bed 1 = .ok (.iload_n 1, 1) := by decide +kernel
theorem dX8_bed_2 : decode cX8_bed 2 = .ok (.invokevirtual 127, 3) := by decide +kernel
theorem dX8_bed_5 : decode cX8_bed 5 = .ok (.ifCond .eq 11, 3) := by decide +kernel
theorem dX8_bed_8 : decode cX8_bed 8 = .ok (.aload_n 0, 1) := by decide +kernel
theorem dX8_bed_9 : decode cX8_bed 9 = .ok (.iload_n 1, 1) := by decide +kernel
theorem dX8_bed_10 : decode cX8_bed 10 = .ok (.invokevirtual 130, 3) := by decide +kernel
theorem dX8_bed_13 : decode cX8_bed 13 = .ok (.goto 4, 3) := by decide +kernel
theorem dX8_bed_16 : decode cX8_bed 16 = .ok (.iconst (-1), 1) := by decide +kernel
theorem dX8_bed_17 : decode cX8_bed 17 = .ok (.ireturn, 1) := by decide +kernel
theorem dX8_wall_0 : decode cX8_wall 0 = .ok (.aload_n 0, 1) := by decide +kernel
theorem dX8_wall_1 : decode cX8_wall 1 = .ok (.iload_n 1, 1) := by decide +kernel
theorem dX8_wall_2 : decode cX8_wall 2 = .ok (.invokevirtual 133, 3) := by decide +kernel
theorem dX8_wall_5 : decode cX8_wall 5 = .ok (.ifCond .eq 16, 3) := by decide +kernel
theorem dX8_wall_8 : decode cX8_wall 8 = .ok (.aload_n 0, 1) := by decide +kernel
theorem dX8_wall_9 : decode cX8_wall 9 = .ok (.getfield 19, 3) := by decide +kernel
theorem dX8_wall_12 : decode cX8_wall 12 = .ok (.iconst 5, 1) := by decide +kernel
theorem dX8_wall_13 : decode cX8_wall 13 = .ok (.iaload, 1) := by decide +kernel
theorem dX8_wall_14 : decode cX8_wall 14 = .ok (.iload_n 1, 1) := by decide +kernel
theorem dX8_wall_15 : decode cX8_wall 15 = .ok (.ishr, 1) := by decide +kernel
theorem dX8_wall_16 : decode cX8_wall 16 = .ok (.iconst 1, 1) := by decide +kernel
theorem dX8_wall_17 : decode cX8_wall 17 = .ok (.iand, 1) := by decide +kernel
theorem dX8_wall_18 : decode cX8_wall 18 = .ok (.goto 4, 3) := by decide +kernel
theorem dX8_wall_21 : decode cX8_wall 21 = .ok (.iconst (-1), 1) := by decide +kernel
theorem dX8_wall_22 : decode cX8_wall 22 = .ok (.ireturn, 1) := by decide +kernel
theorem dX8_keeps_0 : decode cX8_keeps 0 = .ok (.aload_n 0, 1) := by decide +kernel
theorem dX8_keeps_1 : decode cX8_keeps 1 = .ok (.getfield 87, 3) := by decide +kernel
theorem dX8_keeps_4 : decode cX8_keeps 4 = .ok (.bipush 8, 2) := by decide +kernel
theorem dX8_keeps_6 : decode cX8_keeps 6 = .ok (.if_icmp .ne 42, 3) := by decide +kernel
theorem dX8_keeps_9 : decode cX8_keeps 9 = .ok (.iconst 0, 1) := by decide +kernel
theorem dX8_keeps_10 : decode cX8_keeps 10 = .ok (.istore_n 1, 1) := by decide +kernel
theorem dX8_keeps_11 : decode cX8_keeps 11 = .ok (.iload_n 1, 1) := by decide +kernel
theorem dX8_keeps_12 : decode cX8_keeps 12 = .ok (.bipush 70, 2) := by decide +kernel
theorem dX8_keeps_14 : decode cX8_keeps 14 = .ok (.if_icmp .ge 24, 3) := by decide +kernel
theorem dX8_keeps_17 : decode cX8_keeps 17 = .ok (.aload_n 0, 1) := by decide +kernel
theorem dX8_keeps_18 : decode cX8_keeps 18 = .ok (.getfield 22, 3) := by decide +kernel
theorem dX8_keeps_21 : decode cX8_keeps 21 = .ok (.iload_n 1, 1) := by decide +kernel
theorem dX8_keeps_22 : decode cX8_keeps 22 = .ok (.aload_n 0, 1) := by decide +kernel
theorem dX8_keeps_23 : decode cX8_keeps 23 = .ok (.getfield 22, 3) := by decide +kernel
theorem dX8_keeps_26 : decode cX8_keeps 26 = .ok (.iload_n 1, 1) := by decide +kernel
theorem dX8_keeps_27 : decode cX8_keeps 27 = .ok (.bipush 10, 2) := by decide +kernel
theorem dX8_keeps_29 : decode cX8_keeps 29 = .ok (.iadd, 1) := by decide +kernel
theorem dX8_keeps_30 : decode cX8_keeps 30 = .ok (.iaload, 1) := by decide +kernel
theorem dX8_keeps_31 : decode cX8_keeps 31 = .ok (.iastore, 1) := by decide +kernel
theorem dX8_keeps_32 : decode cX8_keeps 32 = .ok (.iinc 1 1, 3) := by decide +kernel
theorem dX8_keeps_35 : decode cX8_keeps 35 = .ok (.goto (-24), 3) := by decide +kernel
theorem dX8_keeps_38 : decode cX8_keeps 38 = .ok (.aload_n 0, 1) := by decide +kernel
theorem dX8_keeps_39 : decode cX8_keeps 39 = .ok (.dup, 1) := by decide +kernel
theorem dX8_keeps_40 : decode cX8_keeps 40 = .ok (.getfield 87, 3) := by decide +kernel
theorem dX8_keeps_43 : decode cX8_keeps 43 = .ok (.iconst 1, 1) := by decide +kernel
theorem dX8_keeps_44 : decode cX8_keeps 44 = .ok (.isub, 1) := by decide +kernel
theorem dX8_keeps_45 : decode cX8_keeps 45 = .ok (.putfield 87, 3) := by decide +kernel
theorem dX8_keeps_48 : decode cX8_keeps 48 = .ok (.iconst 0, 1) := by decide +kernel
theorem dX8_keeps_49 : decode cX8_keeps 49 = .ok (.istore_n 1, 1) := by decide +kernel
theorem dX8_keeps_50 : decode cX8_keeps 50 = .ok (.iload_n 1, 1) := by decide +kernel
theorem dX8_keeps_51 : decode cX8_keeps 51 = .ok (.bipush 10, 2) := by decide +kernel
theorem dX8_keeps_53 : decode cX8_keeps 53 = .ok (.if_icmp .ge 29, 3) := by decide +kernel
theorem dX8_keeps_56 : decode cX8_keeps 56 = .ok (.aload_n 0, 1) := by decide +kernel
theorem dX8_keeps_57 : decode cX8_keeps 57 = .ok (.getfield 22, 3) := by decide +kernel
theorem dX8_keeps_60 : decode cX8_keeps 60 = .ok (.bipush 10, 2) := by decide +kernel
theorem dX8_keeps_62 : decode cX8_keeps 62 = .ok (.aload_n 0, 1) := by decide +kernel
theorem dX8_keeps_63 : decode cX8_keeps 63 = .ok (.getfield 87, 3) := by decide +kernel
theorem dX8_keeps_66 : decode cX8_keeps 66 = .ok (.imul, 1) := by decide +kernel
theorem dX8_keeps_67 : decode cX8_keeps 67 = .ok (.iload_n 1, 1) := by decide +kernel
theorem dX8_keeps_68 : decode cX8_keeps 68 = .ok (.iadd, 1) := by decide +kernel
theorem dX8_keeps_69 : decode cX8_keeps 69 = .ok (.aload_n 0, 1) := by decide +kernel
theorem dX8_keeps_70 : decode cX8_keeps 70 = .ok (.getfield 19, 3) := by decide +kernel
theorem dX8_keeps_73 : decode cX8_keeps 73 = .ok (.iload_n 1, 1) := by decide +kernel
theorem dX8_keeps_74 : decode cX8_keeps 74 = .ok (.iaload, 1) := by decide +kernel
theorem dX8_keeps_75 : decode cX8_keeps 75 = .ok (.iastore, 1) := by decide +kernel
theorem dX8_keeps_76 : decode cX8_keeps 76 = .ok (.iinc 1 1, 3) := by decide +kernel
theorem dX8_keeps_79 : decode cX8_keeps 79 = .ok (.goto (-29), 3) := by decide +kernel
theorem dX8_keeps_82 : decode cX8_keeps 82 = .ok (.aload_n 0, 1) := by decide +kernel
theorem dX8_keeps_83 : decode cX8_keeps 83 = .ok (.dup, 1) := by decide +kernel
theorem dX8_keeps_84 : decode cX8_keeps 84 = .ok (.getfield 87, 3) := by decide +kernel
theorem dX8_keeps_87 : decode cX8_keeps 87 = .ok (.iconst 1, 1) := by decide +kernel
theorem dX8_keeps_88 : decode cX8_keeps 88 = .ok (.iadd, 1) := by decide +kernel
theorem dX8_keeps_89 : decode cX8_keeps 89 = .ok (.putfield 87, 3) := by decide +kernel
theorem dX8_keeps_92 : decode cX8_keeps 92 = .ok (.return_, 1) := by decide +kernel
theorem dX8_far_0 : decode cX8_far 0 = .ok (.iload_n 0, 1) := by decide +kernel
theorem dX8_far_1 : decode cX8_far 1 = .ok (.iload_n 1, 1) := by decide +kernel
theorem dX8_far_2 : decode cX8_far 2 = .ok (.if_icmp .ge 9, 3) := by decide +kernel
theorem dX8_far_5 : decode cX8_far 5 = .ok (.iload_n 1, 1) := by decide +kernel
theorem dX8_far_6 : decode cX8_far 6 = .ok (.iload_n 0, 1) := by decide +kernel
theorem dX8_far_7 : decode cX8_far 7 = .ok (.isub, 1) := by decide +kernel
theorem dX8_far_8 : decode cX8_far 8 = .ok (.goto 6, 3) := by decide +kernel
theorem dX8_far_11 : decode cX8_far 11 = .ok (.iload_n 0, 1) := by decide +kernel
theorem dX8_far_12 : decode cX8_far 12 = .ok (.iload_n 1, 1) := by decide +kernel
theorem dX8_far_13 : decode cX8_far 13 = .ok (.isub, 1) := by decide +kernel
theorem dX8_far_14 : decode cX8_far 14 = .ok (.ireturn, 1) := by decide +kernel
theorem dX8_goes_0 : decode cX8_goes 0 = .ok (.iconst 0, 1) := by decide +kernel
theorem dX8_goes_1 : decode cX8_goes 1 = .ok (.istore_n 3, 1) := by decide +kernel
theorem dX8_goes_2 : decode cX8_goes 2 = .ok (.iconst 0, 1) := by decide +kernel
theorem dX8_goes_3 : decode cX8_goes 3 = .ok (.istore 4, 2) := by decide +kernel
theorem dX8_goes_5 : decode cX8_goes 5 = .ok (.iload 4, 2) := by decide +kernel
theorem dX8_goes_7 : decode cX8_goes 7 = .ok (.aload_n 0, 1) := by decide +kernel
theorem dX8_goes_8 : decode cX8_goes 8 = .ok (.getfield 13, 3) := by decide +kernel
theorem dX8_goes_11 : decode cX8_goes 11 = .ok (.iconst 0, 1) := by decide +kernel
theorem dX8_goes_12 : decode cX8_goes 12 = .ok (.iaload, 1) := by decide +kernel
theorem dX8_goes_13 : decode cX8_goes 13 = .ok (.if_icmp .ge 105, 3) := by decide +kernel
theorem dX8_goes_16 : decode cX8_goes 16 = .ok (.aload_n 0, 1) := by decide +kernel
theorem dX8_goes_17 : decode cX8_goes 17 = .ok (.getfield 19, 3) := by decide +kernel
theorem dX8_goes_20 : decode cX8_goes 20 = .ok (.iload 4, 2) := by decide +kernel
theorem dX8_goes_22 : decode cX8_goes 22 = .ok (.iaload, 1) := by decide +kernel
theorem dX8_goes_23 : decode cX8_goes 23 = .ok (.aload_n 0, 1) := by decide +kernel
theorem dX8_goes_24 : decode cX8_goes 24 = .ok (.getfield 19, 3) := by decide +kernel
theorem dX8_goes_27 : decode cX8_goes 27 = .ok (.iload_n 1, 1) := by decide +kernel
theorem dX8_goes_28 : decode cX8_goes 28 = .ok (.iaload, 1) := by decide +kernel
theorem dX8_goes_29 : decode cX8_goes 29 = .ok (.if_icmp .le 14, 3) := by decide +kernel
theorem dX8_goes_32 : decode cX8_goes 32 = .ok (.aload_n 0, 1) := by decide +kernel
theorem dX8_goes_33 : decode cX8_goes 33 = .ok (.getfield 19, 3) := by decide +kernel
theorem dX8_goes_36 : decode cX8_goes 36 = .ok (.iload 4, 2) := by decide +kernel
theorem dX8_goes_38 : decode cX8_goes 38 = .ok (.iaload, 1) := by decide +kernel
theorem dX8_goes_39 : decode cX8_goes 39 = .ok (.iload_n 2, 1) := by decide +kernel
theorem dX8_goes_40 : decode cX8_goes 40 = .ok (.if_icmp .lt 30, 3) := by decide +kernel
theorem dX8_goes_43 : decode cX8_goes 43 = .ok (.aload_n 0, 1) := by decide +kernel
theorem dX8_goes_44 : decode cX8_goes 44 = .ok (.getfield 19, 3) := by decide +kernel
theorem dX8_goes_47 : decode cX8_goes 47 = .ok (.iload 4, 2) := by decide +kernel
theorem dX8_goes_49 : decode cX8_goes 49 = .ok (.iaload, 1) := by decide +kernel
theorem dX8_goes_50 : decode cX8_goes 50 = .ok (.aload_n 0, 1) := by decide +kernel
theorem dX8_goes_51 : decode cX8_goes 51 = .ok (.getfield 19, 3) := by decide +kernel
theorem dX8_goes_54 : decode cX8_goes 54 = .ok (.iload_n 1, 1) := by decide +kernel
theorem dX8_goes_55 : decode cX8_goes 55 = .ok (.iaload, 1) := by decide +kernel
theorem dX8_goes_56 : decode cX8_goes 56 = .ok (.if_icmp .ge 18, 3) := by decide +kernel
theorem dX8_goes_59 : decode cX8_goes 59 = .ok (.aload_n 0, 1) := by decide +kernel
theorem dX8_goes_60 : decode cX8_goes 60 = .ok (.getfield 19, 3) := by decide +kernel
theorem dX8_goes_63 : decode cX8_goes 63 = .ok (.iload 4, 2) := by decide +kernel
theorem dX8_goes_65 : decode cX8_goes 65 = .ok (.iaload, 1) := by decide +kernel
theorem dX8_goes_66 : decode cX8_goes 66 = .ok (.iload_n 2, 1) := by decide +kernel
theorem dX8_goes_67 : decode cX8_goes 67 = .ok (.if_icmp .le 7, 3) := by decide +kernel
theorem dX8_goes_70 : decode cX8_goes 70 = .ok (.iconst 1, 1) := by decide +kernel
theorem dX8_goes_71 : decode cX8_goes 71 = .ok (.goto 4, 3) := by decide +kernel
theorem dX8_goes_74 : decode cX8_goes 74 = .ok (.iconst 0, 1) := by decide +kernel
theorem dX8_goes_75 : decode cX8_goes 75 = .ok (.istore 5, 2) := by decide +kernel
theorem dX8_goes_77 : decode cX8_goes 77 = .ok (.iload_n 3, 1) := by decide +kernel
theorem dX8_goes_78 : decode cX8_goes 78 = .ok (.iload 5, 2) := by decide +kernel
theorem dX8_goes_80 : decode cX8_goes 80 = .ok (.ifCond .eq 29, 3) := by decide +kernel
theorem dX8_goes_83 : decode cX8_goes 83 = .ok (.aload_n 0, 1) := by decide +kernel
theorem dX8_goes_84 : decode cX8_goes 84 = .ok (.getfield 13, 3) := by decide +kernel
theorem dX8_goes_87 : decode cX8_goes 87 = .ok (.bipush 21, 2) := by decide +kernel
theorem dX8_goes_89 : decode cX8_goes 89 = .ok (.iload 4, 2) := by decide +kernel
theorem dX8_goes_91 : decode cX8_goes 91 = .ok (.iadd, 1) := by decide +kernel
theorem dX8_goes_92 : decode cX8_goes 92 = .ok (.iaload, 1) := by decide +kernel
theorem dX8_goes_93 : decode cX8_goes 93 = .ok (.aload_n 0, 1) := by decide +kernel
theorem dX8_goes_94 : decode cX8_goes 94 = .ok (.getfield 13, 3) := by decide +kernel
theorem dX8_goes_97 : decode cX8_goes 97 = .ok (.iconst 2, 1) := by decide +kernel
theorem dX8_goes_98 : decode cX8_goes 98 = .ok (.iaload, 1) := by decide +kernel
theorem dX8_goes_99 : decode cX8_goes 99 = .ok (.if_icmp .gt 10, 3) := by decide +kernel
theorem dX8_goes_102 : decode cX8_goes 102 = .ok (.iconst 1, 1) := by decide +kernel
theorem dX8_goes_103 : decode cX8_goes 103 = .ok (.iload 4, 2) := by decide +kernel
theorem dX8_goes_105 : decode cX8_goes 105 = .ok (.ishl, 1) := by decide +kernel
theorem dX8_goes_106 : decode cX8_goes 106 = .ok (.goto 4, 3) := by decide +kernel
theorem dX8_goes_109 : decode cX8_goes 109 = .ok (.iconst 0, 1) := by decide +kernel
theorem dX8_goes_110 : decode cX8_goes 110 = .ok (.ior, 1) := by decide +kernel
theorem dX8_goes_111 : decode cX8_goes 111 = .ok (.istore_n 3, 1) := by decide +kernel
theorem dX8_goes_112 : decode cX8_goes 112 = .ok (.iinc 4 1, 3) := by decide +kernel
theorem dX8_goes_115 : decode cX8_goes 115 = .ok (.goto (-110), 3) := by decide +kernel
theorem dX8_goes_118 : decode cX8_goes 118 = .ok (.aload_n 0, 1) := by decide +kernel
theorem dX8_goes_119 : decode cX8_goes 119 = .ok (.getfield 19, 3) := by decide +kernel
theorem dX8_goes_122 : decode cX8_goes 122 = .ok (.bipush 7, 2) := by decide +kernel
theorem dX8_goes_124 : decode cX8_goes 124 = .ok (.dup2, 1) := by decide +kernel
theorem dX8_goes_125 : decode cX8_goes 125 = .ok (.iaload, 1) := by decide +kernel
theorem dX8_goes_126 : decode cX8_goes 126 = .ok (.aload_n 0, 1) := by decide +kernel
theorem dX8_goes_127 : decode cX8_goes 127 = .ok (.getfield 19, 3) := by decide +kernel
theorem dX8_goes_130 : decode cX8_goes 130 = .ok (.iload_n 1, 1) := by decide +kernel
theorem dX8_goes_131 : decode cX8_goes 131 = .ok (.iaload, 1) := by decide +kernel
theorem dX8_goes_132 : decode cX8_goes 132 = .ok (.iload_n 2, 1) := by decide +kernel
theorem dX8_goes_133 : decode cX8_goes 133 = .ok (.invokestatic 136, 3) := by decide +kernel
theorem dX8_goes_136 : decode cX8_goes 136 = .ok (.iadd, 1) := by decide +kernel
theorem dX8_goes_137 : decode cX8_goes 137 = .ok (.iastore, 1) := by decide +kernel
theorem dX8_goes_138 : decode cX8_goes 138 = .ok (.aload_n 0, 1) := by decide +kernel
theorem dX8_goes_139 : decode cX8_goes 139 = .ok (.getfield 19, 3) := by decide +kernel
theorem dX8_goes_142 : decode cX8_goes 142 = .ok (.bipush 8, 2) := by decide +kernel
theorem dX8_goes_144 : decode cX8_goes 144 = .ok (.dup2, 1) := by decide +kernel
theorem dX8_goes_145 : decode cX8_goes 145 = .ok (.iaload, 1) := by decide +kernel
theorem dX8_goes_146 : decode cX8_goes 146 = .ok (.iconst 1, 1) := by decide +kernel
theorem dX8_goes_147 : decode cX8_goes 147 = .ok (.iadd, 1) := by decide +kernel
theorem dX8_goes_148 : decode cX8_goes 148 = .ok (.iastore, 1) := by decide +kernel
theorem dX8_goes_149 : decode cX8_goes 149 = .ok (.aload_n 0, 1) := by decide +kernel
theorem dX8_goes_150 : decode cX8_goes 150 = .ok (.getfield 19, 3) := by decide +kernel
theorem dX8_goes_153 : decode cX8_goes 153 = .ok (.bipush 9, 2) := by decide +kernel
theorem dX8_goes_155 : decode cX8_goes 155 = .ok (.dup2, 1) := by decide +kernel
theorem dX8_goes_156 : decode cX8_goes 156 = .ok (.iaload, 1) := by decide +kernel
theorem dX8_goes_157 : decode cX8_goes 157 = .ok (.iload_n 3, 1) := by decide +kernel
theorem dX8_goes_158 : decode cX8_goes 158 = .ok (.invokestatic 140, 3) := by decide +kernel
theorem dX8_goes_161 : decode cX8_goes 161 = .ok (.iadd, 1) := by decide +kernel
theorem dX8_goes_162 : decode cX8_goes 162 = .ok (.iastore, 1) := by decide +kernel
theorem dX8_goes_163 : decode cX8_goes 163 = .ok (.aload_n 0, 1) := by decide +kernel
theorem dX8_goes_164 : decode cX8_goes 164 = .ok (.getfield 19, 3) := by decide +kernel
theorem dX8_goes_167 : decode cX8_goes 167 = .ok (.iload_n 1, 1) := by decide +kernel
theorem dX8_goes_168 : decode cX8_goes 168 = .ok (.iload_n 2, 1) := by decide +kernel
theorem dX8_goes_169 : decode cX8_goes 169 = .ok (.iastore, 1) := by decide +kernel
theorem dX8_goes_170 : decode cX8_goes 170 = .ok (.iload_n 3, 1) := by decide +kernel
theorem dX8_goes_171 : decode cX8_goes 171 = .ok (.ireturn, 1) := by decide +kernel
theorem dX8_carry_0 : decode cX8_carry 0 = .ok (.aload_n 0, 1) := by decide +kernel
theorem dX8_carry_1 : decode cX8_carry 1 = .ok (.iload_n 1, 1) := by decide +kernel
theorem dX8_carry_2 : decode cX8_carry 2 = .ok (.invokevirtual 118, 3) := by decide +kernel
theorem dX8_carry_5 : decode cX8_carry 5 = .ok (.ifCond .eq 11, 3) := by decide +kernel
theorem dX8_carry_8 : decode cX8_carry 8 = .ok (.aload_n 0, 1) := by decide +kernel
theorem dX8_carry_9 : decode cX8_carry 9 = .ok (.iload_n 2, 1) := by decide +kernel
theorem dX8_carry_10 : decode cX8_carry 10 = .ok (.invokevirtual 127, 3) := by decide +kernel
theorem dX8_carry_13 : decode cX8_carry 13 = .ok (.ifCond .ne 5, 3) := by decide +kernel
theorem dX8_carry_16 : decode cX8_carry 16 = .ok (.iconst (-1), 1) := by decide +kernel
theorem dX8_carry_17 : decode cX8_carry 17 = .ok (.ireturn, 1) := by decide +kernel
theorem dX8_carry_18 : decode cX8_carry 18 = .ok (.aload_n 0, 1) := by decide +kernel
theorem dX8_carry_19 : decode cX8_carry 19 = .ok (.iload_n 2, 1) := by decide +kernel
theorem dX8_carry_20 : decode cX8_carry 20 = .ok (.invokevirtual 130, 3) := by decide +kernel
theorem dX8_carry_23 : decode cX8_carry 23 = .ok (.bipush (-4), 2) := by decide +kernel
theorem dX8_carry_25 : decode cX8_carry 25 = .ok (.if_icmp .eq 6, 3) := by decide +kernel
theorem dX8_carry_28 : decode cX8_carry 28 = .ok (.bipush (-2), 2) := by decide +kernel
theorem dX8_carry_30 : decode cX8_carry 30 = .ok (.ireturn, 1) := by decide +kernel
theorem dX8_carry_31 : decode cX8_carry 31 = .ok (.aload_n 0, 1) := by decide +kernel
theorem dX8_carry_32 : decode cX8_carry 32 = .ok (.invokevirtual 143, 3) := by decide +kernel
theorem dX8_carry_35 : decode cX8_carry 35 = .ok (.aload_n 0, 1) := by decide +kernel
theorem dX8_carry_36 : decode cX8_carry 36 = .ok (.iload_n 1, 1) := by decide +kernel
theorem dX8_carry_37 : decode cX8_carry 37 = .ok (.iload_n 2, 1) := by decide +kernel
theorem dX8_carry_38 : decode cX8_carry 38 = .ok (.invokevirtual 146, 3) := by decide +kernel
theorem dX8_carry_41 : decode cX8_carry 41 = .ok (.ireturn, 1) := by decide +kernel
theorem dX8_stuff_0 : decode cX8_stuff 0 = .ok (.aload_n 0, 1) := by decide +kernel
theorem dX8_stuff_1 : decode cX8_stuff 1 = .ok (.iload_n 1, 1) := by decide +kernel
theorem dX8_stuff_2 : decode cX8_stuff 2 = .ok (.invokevirtual 133, 3) := by decide +kernel
theorem dX8_stuff_5 : decode cX8_stuff 5 = .ok (.ifCond .ne 5, 3) := by decide +kernel
theorem dX8_stuff_8 : decode cX8_stuff 8 = .ok (.iconst (-1), 1) := by decide +kernel
theorem dX8_stuff_9 : decode cX8_stuff 9 = .ok (.ireturn, 1) := by decide +kernel
theorem dX8_stuff_10 : decode cX8_stuff 10 = .ok (.aload_n 0, 1) := by decide +kernel
theorem dX8_stuff_11 : decode cX8_stuff 11 = .ok (.invokevirtual 143, 3) := by decide +kernel
theorem dX8_stuff_14 : decode cX8_stuff 14 = .ok (.aload_n 0, 1) := by decide +kernel
theorem dX8_stuff_15 : decode cX8_stuff 15 = .ok (.getfield 19, 3) := by decide +kernel
theorem dX8_stuff_18 : decode cX8_stuff 18 = .ok (.iconst 5, 1) := by decide +kernel
theorem dX8_stuff_19 : decode cX8_stuff 19 = .ok (.dup2, 1) := by decide +kernel
theorem dX8_stuff_20 : decode cX8_stuff 20 = .ok (.iaload, 1) := by decide +kernel
theorem dX8_stuff_21 : decode cX8_stuff 21 = .ok (.iconst 1, 1) := by decide +kernel
theorem dX8_stuff_22 : decode cX8_stuff 22 = .ok (.iload_n 1, 1) := by decide +kernel
theorem dX8_stuff_23 : decode cX8_stuff 23 = .ok (.ishl, 1) := by decide +kernel
theorem dX8_stuff_24 : decode cX8_stuff 24 = .ok (.ixor, 1) := by decide +kernel
theorem dX8_stuff_25 : decode cX8_stuff 25 = .ok (.iastore, 1) := by decide +kernel
theorem dX8_stuff_26 : decode cX8_stuff 26 = .ok (.aload_n 0, 1) := by decide +kernel
theorem dX8_stuff_27 : decode cX8_stuff 27 = .ok (.getfield 19, 3) := by decide +kernel
theorem dX8_stuff_30 : decode cX8_stuff 30 = .ok (.iconst 5, 1) := by decide +kernel
theorem dX8_stuff_31 : decode cX8_stuff 31 = .ok (.iaload, 1) := by decide +kernel
theorem dX8_stuff_32 : decode cX8_stuff 32 = .ok (.iload_n 1, 1) := by decide +kernel
theorem dX8_stuff_33 : decode cX8_stuff 33 = .ok (.ishr, 1) := by decide +kernel
theorem dX8_stuff_34 : decode cX8_stuff 34 = .ok (.iconst 1, 1) := by decide +kernel
theorem dX8_stuff_35 : decode cX8_stuff 35 = .ok (.iand, 1) := by decide +kernel
theorem dX8_stuff_36 : decode cX8_stuff 36 = .ok (.ireturn, 1) := by decide +kernel
theorem dX8_passes_0 : decode cX8_passes 0 = .ok (.aload_n 0, 1) := by decide +kernel
theorem dX8_passes_1 : decode cX8_passes 1 = .ok (.getfield 19, 3) := by decide +kernel
theorem dX8_passes_4 : decode cX8_passes 4 = .ok (.bipush 6, 2) := by decide +kernel
theorem dX8_passes_6 : decode cX8_passes 6 = .ok (.dup2, 1) := by decide +kernel
theorem dX8_passes_7 : decode cX8_passes 7 = .ok (.iaload, 1) := by decide +kernel
theorem dX8_passes_8 : decode cX8_passes 8 = .ok (.aload_n 0, 1) := by decide +kernel
theorem dX8_passes_9 : decode cX8_passes 9 = .ok (.getfield 19, 3) := by decide +kernel
theorem dX8_passes_12 : decode cX8_passes 12 = .ok (.bipush 6, 2) := by decide +kernel
theorem dX8_passes_14 : decode cX8_passes 14 = .ok (.iaload, 1) := by decide +kernel
theorem dX8_passes_15 : decode cX8_passes 15 = .ok (.bipush 7, 2) := by decide +kernel
theorem dX8_passes_17 : decode cX8_passes 17 = .ok (.if_icmp .ge 7, 3) := by decide +kernel
theorem dX8_passes_20 : decode cX8_passes 20 = .ok (.iconst 1, 1) := by decide +kernel
theorem dX8_passes_21 : decode cX8_passes 21 = .ok (.goto 4, 3) := by decide +kernel
theorem dX8_passes_24 : decode cX8_passes 24 = .ok (.iconst 0, 1) := by decide +kernel
theorem dX8_passes_25 : decode cX8_passes 25 = .ok (.iadd, 1) := by decide +kernel
theorem dX8_passes_26 : decode cX8_passes 26 = .ok (.iastore, 1) := by decide +kernel
theorem dX8_passes_27 : decode cX8_passes 27 = .ok (.return_, 1) := by decide +kernel
theorem dX8_hour_0 : decode cX8_hour 0 = .ok (.aload_n 0, 1) := by decide +kernel
theorem dX8_hour_1 : decode cX8_hour 1 = .ok (.invokevirtual 143, 3) := by decide +kernel
theorem dX8_hour_4 : decode cX8_hour 4 = .ok (.aload_n 0, 1) := by decide +kernel
theorem dX8_hour_5 : decode cX8_hour 5 = .ok (.invokevirtual 149, 3) := by decide +kernel
theorem dX8_hour_8 : decode cX8_hour 8 = .ok (.aload_n 0, 1) := by decide +kernel
theorem dX8_hour_9 : decode cX8_hour 9 = .ok (.getfield 19, 3) := by decide +kernel
theorem dX8_hour_12 : decode cX8_hour 12 = .ok (.bipush 6, 2) := by decide +kernel
theorem dX8_hour_14 : decode cX8_hour 14 = .ok (.iaload, 1) := by decide +kernel
theorem dX8_hour_15 : decode cX8_hour 15 = .ok (.ireturn, 1) := by decide +kernel
theorem dX8_undo_0 : decode cX8_undo 0 = .ok (.aload_n 0, 1) := by decide +kernel
theorem dX8_undo_1 : decode cX8_undo 1 = .ok (.getfield 87, 3) := by decide +kernel
theorem dX8_undo_4 : decode cX8_undo 4 = .ok (.ifCond .ne 6, 3) := by decide +kernel
theorem dX8_undo_7 : decode cX8_undo 7 = .ok (.bipush (-2), 2) := by decide +kernel
theorem dX8_undo_9 : decode cX8_undo 9 = .ok (.ireturn, 1) := by decide +kernel
theorem dX8_undo_10 : decode cX8_undo 10 = .ok (.aload_n 0, 1) := by decide +kernel
theorem dX8_undo_11 : decode cX8_undo 11 = .ok (.dup, 1) := by decide +kernel
theorem dX8_undo_12 : decode cX8_undo 12 = .ok (.getfield 87, 3) := by decide +kernel
theorem dX8_undo_15 : decode cX8_undo 15 = .ok (.iconst 1, 1) := by decide +kernel
theorem dX8_undo_16 : decode cX8_undo 16 = .ok (.isub, 1) := by decide +kernel
theorem dX8_undo_17 : decode cX8_undo 17 = .ok (.putfield 87, 3) := by decide +kernel
theorem dX8_undo_20 : decode cX8_undo 20 = .ok (.iconst 0, 1) := by decide +kernel
theorem dX8_undo_21 : decode cX8_undo 21 = .ok (.istore_n 1, 1) := by decide +kernel
theorem dX8_undo_22 : decode cX8_undo 22 = .ok (.iload_n 1, 1) := by decide +kernel
theorem dX8_undo_23 : decode cX8_undo 23 = .ok (.bipush 10, 2) := by decide +kernel
theorem dX8_undo_25 : decode cX8_undo 25 = .ok (.if_icmp .ge 29, 3) := by decide +kernel
theorem dX8_undo_28 : decode cX8_undo 28 = .ok (.aload_n 0, 1) := by decide +kernel
theorem dX8_undo_29 : decode cX8_undo 29 = .ok (.getfield 19, 3) := by decide +kernel
theorem dX8_undo_32 : decode cX8_undo 32 = .ok (.iload_n 1, 1) := by decide +kernel
theorem dX8_undo_33 : decode cX8_undo 33 = .ok (.aload_n 0, 1) := by decide +kernel
theorem dX8_undo_34 : decode cX8_undo 34 = .ok (.getfield 22, 3) := by decide +kernel
theorem dX8_undo_37 : decode cX8_undo 37 = .ok (.bipush 10, 2) := by decide +kernel
theorem dX8_undo_39 : decode cX8_undo 39 = .ok (.aload_n 0, 1) := by decide +kernel
theorem dX8_undo_40 : decode cX8_undo 40 = .ok (.getfield 87, 3) := by decide +kernel
theorem dX8_undo_43 : decode cX8_undo 43 = .ok (.imul, 1) := by decide +kernel
theorem dX8_undo_44 : decode cX8_undo 44 = .ok (.iload_n 1, 1) := by decide +kernel
theorem dX8_undo_45 : decode cX8_undo 45 = .ok (.iadd, 1) := by decide +kernel
theorem dX8_undo_46 : decode cX8_undo 46 = .ok (.iaload, 1) := by decide +kernel
theorem dX8_undo_47 : decode cX8_undo 47 = .ok (.iastore, 1) := by decide +kernel
theorem dX8_undo_48 : decode cX8_undo 48 = .ok (.iinc 1 1, 3) := by decide +kernel
theorem dX8_undo_51 : decode cX8_undo 51 = .ok (.goto (-29), 3) := by decide +kernel
theorem dX8_undo_54 : decode cX8_undo 54 = .ok (.aload_n 0, 1) := by decide +kernel
theorem dX8_undo_55 : decode cX8_undo 55 = .ok (.getfield 87, 3) := by decide +kernel
theorem dX8_undo_58 : decode cX8_undo 58 = .ok (.ireturn, 1) := by decide +kernel
theorem dX8_lawOf_0 : decode cX8_lawOf 0 = .ok (.iconst 0, 1) := by decide +kernel
theorem dX8_lawOf_1 : decode cX8_lawOf 1 = .ok (.istore_n 2, 1) := by decide +kernel
theorem dX8_lawOf_2 : decode cX8_lawOf 2 = .ok (.iconst 0, 1) := by decide +kernel
theorem dX8_lawOf_3 : decode cX8_lawOf 3 = .ok (.istore_n 3, 1) := by decide +kernel
theorem dX8_lawOf_4 : decode cX8_lawOf 4 = .ok (.iload_n 3, 1) := by decide +kernel
theorem dX8_lawOf_5 : decode cX8_lawOf 5 = .ok (.aload_n 0, 1) := by decide +kernel
theorem dX8_lawOf_6 : decode cX8_lawOf 6 = .ok (.getfield 13, 3) := by decide +kernel
theorem dX8_lawOf_9 : decode cX8_lawOf 9 = .ok (.iconst 0, 1) := by decide +kernel
theorem dX8_lawOf_10 : decode cX8_lawOf 10 = .ok (.iaload, 1) := by decide +kernel
theorem dX8_lawOf_11 : decode cX8_lawOf 11 = .ok (.if_icmp .ge 48, 3) := by decide +kernel
theorem dX8_lawOf_14 : decode cX8_lawOf 14 = .ok (.iload_n 2, 1) := by decide +kernel
theorem dX8_lawOf_15 : decode cX8_lawOf 15 = .ok (.aload_n 0, 1) := by decide +kernel
theorem dX8_lawOf_16 : decode cX8_lawOf 16 = .ok (.iload_n 3, 1) := by decide +kernel
theorem dX8_lawOf_17 : decode cX8_lawOf 17 = .ok (.invokevirtual 109, 3) := by decide +kernel
theorem dX8_lawOf_20 : decode cX8_lawOf 20 = .ok (.aload_n 0, 1) := by decide +kernel
theorem dX8_lawOf_21 : decode cX8_lawOf 21 = .ok (.iload_n 1, 1) := by decide +kernel
theorem dX8_lawOf_22 : decode cX8_lawOf 22 = .ok (.invokevirtual 109, 3) := by decide +kernel
theorem dX8_lawOf_25 : decode cX8_lawOf 25 = .ok (.if_icmp .gt 21, 3) := by decide +kernel
theorem dX8_lawOf_28 : decode cX8_lawOf 28 = .ok (.aload_n 0, 1) := by decide +kernel
theorem dX8_lawOf_29 : decode cX8_lawOf 29 = .ok (.iload_n 3, 1) := by decide +kernel
theorem dX8_lawOf_30 : decode cX8_lawOf 30 = .ok (.invokevirtual 109, 3) := by decide +kernel
theorem dX8_lawOf_33 : decode cX8_lawOf 33 = .ok (.aload_n 0, 1) := by decide +kernel
theorem dX8_lawOf_34 : decode cX8_lawOf 34 = .ok (.iload_n 1, 1) := by decide +kernel
theorem dX8_lawOf_35 : decode cX8_lawOf 35 = .ok (.invokevirtual 109, 3) := by decide +kernel
theorem dX8_lawOf_38 : decode cX8_lawOf 38 = .ok (.if_icmp .ne 12, 3) := by decide +kernel
theorem dX8_lawOf_41 : decode cX8_lawOf 41 = .ok (.iload_n 3, 1) := by decide +kernel
theorem dX8_lawOf_42 : decode cX8_lawOf 42 = .ok (.iload_n 1, 1) := by decide +kernel
theorem dX8_lawOf_43 : decode cX8_lawOf 43 = .ok (.if_icmp .ge 7, 3) := by decide +kernel
theorem dX8_lawOf_46 : decode cX8_lawOf 46 = .ok (.iconst 1, 1) := by decide +kernel
theorem dX8_lawOf_47 : decode cX8_lawOf 47 = .ok (.goto 4, 3) := by decide +kernel
theorem dX8_lawOf_50 : decode cX8_lawOf 50 = .ok (.iconst 0, 1) := by decide +kernel
theorem dX8_lawOf_51 : decode cX8_lawOf 51 = .ok (.iadd, 1) := by decide +kernel
theorem dX8_lawOf_52 : decode cX8_lawOf 52 = .ok (.istore_n 2, 1) := by decide +kernel
theorem dX8_lawOf_53 : decode cX8_lawOf 53 = .ok (.iinc 3 1, 3) := by decide +kernel
theorem dX8_lawOf_56 : decode cX8_lawOf 56 = .ok (.goto (-52), 3) := by decide +kernel
theorem dX8_lawOf_59 : decode cX8_lawOf 59 = .ok (.iload_n 2, 1) := by decide +kernel
theorem dX8_lawOf_60 : decode cX8_lawOf 60 = .ok (.iconst 2, 1) := by decide +kernel
theorem dX8_lawOf_61 : decode cX8_lawOf 61 = .ok (.irem, 1) := by decide +kernel
theorem dX8_lawOf_62 : decode cX8_lawOf 62 = .ok (.ifCond .ne 9, 3) := by decide +kernel
theorem dX8_lawOf_65 : decode cX8_lawOf 65 = .ok (.iload_n 2, 1) := by decide +kernel
theorem dX8_lawOf_66 : decode cX8_lawOf 66 = .ok (.iconst 2, 1) := by decide +kernel
theorem dX8_lawOf_67 : decode cX8_lawOf 67 = .ok (.idiv, 1) := by decide +kernel
theorem dX8_lawOf_68 : decode cX8_lawOf 68 = .ok (.goto 15, 3) := by decide +kernel
theorem dX8_lawOf_71 : decode cX8_lawOf 71 = .ok (.aload_n 0, 1) := by decide +kernel
theorem dX8_lawOf_72 : decode cX8_lawOf 72 = .ok (.getfield 13, 3) := by decide +kernel
theorem dX8_lawOf_75 : decode cX8_lawOf 75 = .ok (.iconst 1, 1) := by decide +kernel
theorem dX8_lawOf_76 : decode cX8_lawOf 76 = .ok (.iaload, 1) := by decide +kernel
theorem dX8_lawOf_77 : decode cX8_lawOf 77 = .ok (.iconst 1, 1) := by decide +kernel
theorem dX8_lawOf_78 : decode cX8_lawOf 78 = .ok (.isub, 1) := by decide +kernel
theorem dX8_lawOf_79 : decode cX8_lawOf 79 = .ok (.iload_n 2, 1) := by decide +kernel
theorem dX8_lawOf_80 : decode cX8_lawOf 80 = .ok (.iconst 2, 1) := by decide +kernel
theorem dX8_lawOf_81 : decode cX8_lawOf 81 = .ok (.idiv, 1) := by decide +kernel
theorem dX8_lawOf_82 : decode cX8_lawOf 82 = .ok (.isub, 1) := by decide +kernel
theorem dX8_lawOf_83 : decode cX8_lawOf 83 = .ok (.ireturn, 1) := by decide +kernel
theorem dX8_law_0 : decode cX8_law 0 = .ok (.iload_n 1, 1) := by decide +kernel
theorem dX8_law_1 : decode cX8_law 1 = .ok (.iconst (-1), 1) := by decide +kernel
theorem dX8_law_2 : decode cX8_law 2 = .ok (.if_icmp .eq 13, 3) := by decide +kernel
theorem dX8_law_5 : decode cX8_law 5 = .ok (.aload_n 0, 1) := by decide +kernel
theorem dX8_law_6 : decode cX8_law 6 = .ok (.iload_n 1, 1) := by decide +kernel
theorem dX8_law_7 : decode cX8_law 7 = .ok (.invokevirtual 118, 3) := by decide +kernel
theorem dX8_law_10 : decode cX8_law 10 = .ok (.ifCond .ne 5, 3) := by decide +kernel
theorem dX8_law_13 : decode cX8_law 13 = .ok (.iconst (-1), 1) := by decide +kernel
theorem dX8_law_14 : decode cX8_law 14 = .ok (.ireturn, 1) := by decide +kernel
theorem dX8_law_15 : decode cX8_law 15 = .ok (.aload_n 0, 1) := by decide +kernel
theorem dX8_law_16 : decode cX8_law 16 = .ok (.invokevirtual 121, 3) := by decide +kernel
theorem dX8_law_19 : decode cX8_law 19 = .ok (.iload_n 1, 1) := by decide +kernel
theorem dX8_law_20 : decode cX8_law 20 = .ok (.ifCond .lt 9, 3) := by decide +kernel
theorem dX8_law_23 : decode cX8_law 23 = .ok (.aload_n 0, 1) := by decide +kernel
theorem dX8_law_24 : decode cX8_law 24 = .ok (.iload_n 1, 1) := by decide +kernel
theorem dX8_law_25 : decode cX8_law 25 = .ok (.invokevirtual 152, 3) := by decide +kernel
theorem dX8_law_28 : decode cX8_law 28 = .ok (.ireturn, 1) := by decide +kernel
theorem dX8_law_29 : decode cX8_law 29 = .ok (.iconst 1, 1) := by decide +kernel
theorem dX8_law_30 : decode cX8_law 30 = .ok (.istore_n 2, 1) := by decide +kernel
theorem dX8_law_31 : decode cX8_law 31 = .ok (.iconst 0, 1) := by decide +kernel
theorem dX8_law_32 : decode cX8_law 32 = .ok (.istore_n 3, 1) := by decide +kernel
theorem dX8_law_33 : decode cX8_law 33 = .ok (.iload_n 3, 1) := by decide +kernel
theorem dX8_law_34 : decode cX8_law 34 = .ok (.aload_n 0, 1) := by decide +kernel
theorem dX8_law_35 : decode cX8_law 35 = .ok (.getfield 13, 3) := by decide +kernel
theorem dX8_law_38 : decode cX8_law 38 = .ok (.iconst 0, 1) := by decide +kernel
theorem dX8_law_39 : decode cX8_law 39 = .ok (.iaload, 1) := by decide +kernel
theorem dX8_law_40 : decode cX8_law 40 = .ok (.if_icmp .ge 33, 3) := by decide +kernel
theorem dX8_law_43 : decode cX8_law 43 = .ok (.iload_n 2, 1) := by decide +kernel
theorem dX8_law_44 : decode cX8_law 44 = .ok (.ifCond .eq 21, 3) := by decide +kernel
theorem dX8_law_47 : decode cX8_law 47 = .ok (.aload_n 0, 1) := by decide +kernel
theorem dX8_law_48 : decode cX8_law 48 = .ok (.iload_n 3, 1) := by decide +kernel
theorem dX8_law_49 : decode cX8_law 49 = .ok (.invokevirtual 152, 3) := by decide +kernel
theorem dX8_law_52 : decode cX8_law 52 = .ok (.aload_n 0, 1) := by decide +kernel
theorem dX8_law_53 : decode cX8_law 53 = .ok (.getfield 19, 3) := by decide +kernel
theorem dX8_law_56 : decode cX8_law 56 = .ok (.iload_n 3, 1) := by decide +kernel
theorem dX8_law_57 : decode cX8_law 57 = .ok (.iaload, 1) := by decide +kernel
theorem dX8_law_58 : decode cX8_law 58 = .ok (.if_icmp .ne 7, 3) := by decide +kernel
theorem dX8_law_61 : decode cX8_law 61 = .ok (.iconst 1, 1) := by decide +kernel
theorem dX8_law_62 : decode cX8_law 62 = .ok (.goto 4, 3) := by decide +kernel
theorem dX8_law_65 : decode cX8_law 65 = .ok (.iconst 0, 1) := by decide +kernel
theorem dX8_law_66 : decode cX8_law 66 = .ok (.istore_n 2, 1) := by decide +kernel
theorem dX8_law_67 : decode cX8_law 67 = .ok (.iinc 3 1, 3) := by decide +kernel
theorem dX8_law_70 : decode cX8_law 70 = .ok (.goto (-37), 3) := by decide +kernel
theorem dX8_law_73 : decode cX8_law 73 = .ok (.iload_n 2, 1) := by decide +kernel
theorem dX8_law_74 : decode cX8_law 74 = .ok (.ifCond .eq 7, 3) := by decide +kernel
theorem dX8_law_77 : decode cX8_law 77 = .ok (.iconst 1, 1) := by decide +kernel
theorem dX8_law_78 : decode cX8_law 78 = .ok (.goto 4, 3) := by decide +kernel
theorem dX8_law_81 : decode cX8_law 81 = .ok (.iconst 0, 1) := by decide +kernel
theorem dX8_law_82 : decode cX8_law 82 = .ok (.ireturn, 1) := by decide +kernel
theorem dX8_codeOf_0 : decode cX8_codeOf 0 = .ok (.iconst 0, 1) := by decide +kernel
theorem dX8_codeOf_1 : decode cX8_codeOf 1 = .ok (.istore_n 1, 1) := by decide +kernel
theorem dX8_codeOf_2 : decode cX8_codeOf 2 = .ok (.iconst 0, 1) := by decide +kernel
theorem dX8_codeOf_3 : decode cX8_codeOf 3 = .ok (.istore_n 2, 1) := by decide +kernel
theorem dX8_codeOf_4 : decode cX8_codeOf 4 = .ok (.iload_n 2, 1) := by decide +kernel
theorem dX8_codeOf_5 : decode cX8_codeOf 5 = .ok (.aload_n 0, 1) := by decide +kernel
theorem dX8_codeOf_6 : decode cX8_codeOf 6 = .ok (.getfield 13, 3) := by decide +kernel
theorem dX8_codeOf_9 : decode cX8_codeOf 9 = .ok (.iconst 0, 1) := by decide +kernel
theorem dX8_codeOf_10 : decode cX8_codeOf 10 = .ok (.iaload, 1) := by decide +kernel
theorem dX8_codeOf_11 : decode cX8_codeOf 11 = .ok (.if_icmp .ge 21, 3) := by decide +kernel
theorem dX8_codeOf_14 : decode cX8_codeOf 14 = .ok (.bipush 6, 2) := by decide +kernel
theorem dX8_codeOf_16 : decode cX8_codeOf 16 = .ok (.iload_n 1, 1) := by decide +kernel
theorem dX8_codeOf_17 : decode cX8_codeOf 17 = .ok (.imul, 1) := by decide +kernel
theorem dX8_codeOf_18 : decode cX8_codeOf 18 = .ok (.aload_n 0, 1) := by decide +kernel
theorem dX8_codeOf_19 : decode cX8_codeOf 19 = .ok (.getfield 31, 3) := by decide +kernel
theorem dX8_codeOf_22 : decode cX8_codeOf 22 = .ok (.iload_n 2, 1) := by decide +kernel
theorem dX8_codeOf_23 : decode cX8_codeOf 23 = .ok (.iaload, 1) := by decide +kernel
theorem dX8_codeOf_24 : decode cX8_codeOf 24 = .ok (.iadd, 1) := by decide +kernel
theorem dX8_codeOf_25 : decode cX8_codeOf 25 = .ok (.istore_n 1, 1) := by decide +kernel
theorem dX8_codeOf_26 : decode cX8_codeOf 26 = .ok (.iinc 2 1, 3) := by decide +kernel
theorem dX8_codeOf_29 : decode cX8_codeOf 29 = .ok (.goto (-25), 3) := by decide +kernel
theorem dX8_codeOf_32 : decode cX8_codeOf 32 = .ok (.iload_n 1, 1) := by decide +kernel
theorem dX8_codeOf_33 : decode cX8_codeOf 33 = .ok (.ireturn, 1) := by decide +kernel
theorem dX8_lieBy_0 : decode cX8_lieBy 0 = .ok (.iload_n 1, 1) := by decide +kernel
theorem dX8_lieBy_1 : decode cX8_lieBy 1 = .ok (.istore_n 2, 1) := by decide +kernel
theorem dX8_lieBy_2 : decode cX8_lieBy 2 = .ok (.iconst 0, 1) := by decide +kernel
theorem dX8_lieBy_3 : decode cX8_lieBy 3 = .ok (.istore_n 3, 1) := by decide +kernel
theorem dX8_lieBy_4 : decode cX8_lieBy 4 = .ok (.aload_n 0, 1) := by decide +kernel
theorem dX8_lieBy_5 : decode cX8_lieBy 5 = .ok (.getfield 13, 3) := by decide +kernel
theorem dX8_lieBy_8 : decode cX8_lieBy 8 = .ok (.iconst 0, 1) := by decide +kernel
theorem dX8_lieBy_9 : decode cX8_lieBy 9 = .ok (.iaload, 1) := by decide +kernel
theorem dX8_lieBy_10 : decode cX8_lieBy 10 = .ok (.iconst 1, 1) := by decide +kernel
theorem dX8_lieBy_11 : decode cX8_lieBy 11 = .ok (.isub, 1) := by decide +kernel
theorem dX8_lieBy_12 : decode cX8_lieBy 12 = .ok (.istore 4, 2) := by decide +kernel
theorem dX8_lieBy_14 : decode cX8_lieBy 14 = .ok (.iload 4, 2) := by decide +kernel
theorem dX8_lieBy_16 : decode cX8_lieBy 16 = .ok (.ifCond .lt 34, 3) := by decide +kernel
theorem dX8_lieBy_19 : decode cX8_lieBy 19 = .ok (.aload_n 0, 1) := by decide +kernel
theorem dX8_lieBy_20 : decode cX8_lieBy 20 = .ok (.getfield 31, 3) := by decide +kernel
theorem dX8_lieBy_23 : decode cX8_lieBy 23 = .ok (.iload 4, 2) := by decide +kernel
theorem dX8_lieBy_25 : decode cX8_lieBy 25 = .ok (.iload_n 2, 1) := by decide +kernel
theorem dX8_lieBy_26 : decode cX8_lieBy 26 = .ok (.bipush 6, 2) := by decide +kernel
theorem dX8_lieBy_28 : decode cX8_lieBy 28 = .ok (.irem, 1) := by decide +kernel
theorem dX8_lieBy_29 : decode cX8_lieBy 29 = .ok (.iastore, 1) := by decide +kernel
theorem dX8_lieBy_30 : decode cX8_lieBy 30 = .ok (.iload_n 3, 1) := by decide +kernel
theorem dX8_lieBy_31 : decode cX8_lieBy 31 = .ok (.iconst 1, 1) := by decide +kernel
theorem dX8_lieBy_32 : decode cX8_lieBy 32 = .ok (.iload_n 2, 1) := by decide +kernel
theorem dX8_lieBy_33 : decode cX8_lieBy 33 = .ok (.bipush 6, 2) := by decide +kernel
theorem dX8_lieBy_35 : decode cX8_lieBy 35 = .ok (.irem, 1) := by decide +kernel
theorem dX8_lieBy_36 : decode cX8_lieBy 36 = .ok (.ishl, 1) := by decide +kernel
theorem dX8_lieBy_37 : decode cX8_lieBy 37 = .ok (.ior, 1) := by decide +kernel
theorem dX8_lieBy_38 : decode cX8_lieBy 38 = .ok (.istore_n 3, 1) := by decide +kernel
theorem dX8_lieBy_39 : decode cX8_lieBy 39 = .ok (.iload_n 2, 1) := by decide +kernel
theorem dX8_lieBy_40 : decode cX8_lieBy 40 = .ok (.bipush 6, 2) := by decide +kernel
theorem dX8_lieBy_42 : decode cX8_lieBy 42 = .ok (.idiv, 1) := by decide +kernel
theorem dX8_lieBy_43 : decode cX8_lieBy 43 = .ok (.istore_n 2, 1) := by decide +kernel
theorem dX8_lieBy_44 : decode cX8_lieBy 44 = .ok (.iinc 4 (-1), 3) := by decide +kernel
theorem dX8_lieBy_47 : decode cX8_lieBy 47 = .ok (.goto (-33), 3) := by decide +kernel
theorem dX8_lieBy_50 : decode cX8_lieBy 50 = .ok (.iload_n 3, 1) := by decide +kernel
theorem dX8_lieBy_51 : decode cX8_lieBy 51 = .ok (.invokestatic 140, 3) := by decide +kernel
theorem dX8_lieBy_54 : decode cX8_lieBy 54 = .ok (.aload_n 0, 1) := by decide +kernel
theorem dX8_lieBy_55 : decode cX8_lieBy 55 = .ok (.getfield 13, 3) := by decide +kernel
theorem dX8_lieBy_58 : decode cX8_lieBy 58 = .ok (.iconst 0, 1) := by decide +kernel
theorem dX8_lieBy_59 : decode cX8_lieBy 59 = .ok (.iaload, 1) := by decide +kernel
theorem dX8_lieBy_60 : decode cX8_lieBy 60 = .ok (.if_icmp .ne 19, 3) := by decide +kernel
theorem dX8_lieBy_63 : decode cX8_lieBy 63 = .ok (.iload_n 3, 1) := by decide +kernel
theorem dX8_lieBy_64 : decode cX8_lieBy 64 = .ok (.iconst 1, 1) := by decide +kernel
theorem dX8_lieBy_65 : decode cX8_lieBy 65 = .ok (.aload_n 0, 1) := by decide +kernel
theorem dX8_lieBy_66 : decode cX8_lieBy 66 = .ok (.getfield 13, 3) := by decide +kernel
theorem dX8_lieBy_69 : decode cX8_lieBy 69 = .ok (.iconst 1, 1) := by decide +kernel
theorem dX8_lieBy_70 : decode cX8_lieBy 70 = .ok (.iaload, 1) := by decide +kernel
theorem dX8_lieBy_71 : decode cX8_lieBy 71 = .ok (.ishl, 1) := by decide +kernel
theorem dX8_lieBy_72 : decode cX8_lieBy 72 = .ok (.if_icmp .ge 7, 3) := by decide +kernel
theorem dX8_lieBy_75 : decode cX8_lieBy 75 = .ok (.iconst 1, 1) := by decide +kernel
theorem dX8_lieBy_76 : decode cX8_lieBy 76 = .ok (.goto 4, 3) := by decide +kernel
theorem dX8_lieBy_79 : decode cX8_lieBy 79 = .ok (.iconst 0, 1) := by decide +kernel
theorem dX8_lieBy_80 : decode cX8_lieBy 80 = .ok (.ireturn, 1) := by decide +kernel
theorem dX8_codes_0 : decode cX8_codes 0 = .ok (.iconst 1, 1) := by decide +kernel
theorem dX8_codes_1 : decode cX8_codes 1 = .ok (.istore_n 1, 1) := by decide +kernel
theorem dX8_codes_2 : decode cX8_codes 2 = .ok (.iconst 0, 1) := by decide +kernel
theorem dX8_codes_3 : decode cX8_codes 3 = .ok (.istore_n 2, 1) := by decide +kernel
theorem dX8_codes_4 : decode cX8_codes 4 = .ok (.iload_n 2, 1) := by decide +kernel
theorem dX8_codes_5 : decode cX8_codes 5 = .ok (.aload_n 0, 1) := by decide +kernel
theorem dX8_codes_6 : decode cX8_codes 6 = .ok (.getfield 13, 3) := by decide +kernel
theorem dX8_codes_9 : decode cX8_codes 9 = .ok (.iconst 0, 1) := by decide +kernel
theorem dX8_codes_10 : decode cX8_codes 10 = .ok (.iaload, 1) := by decide +kernel
theorem dX8_codes_11 : decode cX8_codes 11 = .ok (.if_icmp .ge 14, 3) := by decide +kernel
theorem dX8_codes_14 : decode cX8_codes 14 = .ok (.iload_n 1, 1) := by decide +kernel
theorem dX8_codes_15 : decode cX8_codes 15 = .ok (.bipush 6, 2) := by decide +kernel
theorem dX8_codes_17 : decode cX8_codes 17 = .ok (.imul, 1) := by decide +kernel
theorem dX8_codes_18 : decode cX8_codes 18 = .ok (.istore_n 1, 1) := by decide +kernel
theorem dX8_codes_19 : decode cX8_codes 19 = .ok (.iinc 2 1, 3) := by decide +kernel
theorem dX8_codes_22 : decode cX8_codes 22 = .ok (.goto (-18), 3) := by decide +kernel
theorem dX8_codes_25 : decode cX8_codes 25 = .ok (.iload_n 1, 1) := by decide +kernel
theorem dX8_codes_26 : decode cX8_codes 26 = .ok (.ireturn, 1) := by decide +kernel
theorem dX8_mayCarry_0 : decode cX8_mayCarry 0 = .ok (.iconst 1, 1) := by decide +kernel
theorem dX8_mayCarry_1 : decode cX8_mayCarry 1 = .ok (.istore_n 3, 1) := by decide +kernel
theorem dX8_mayCarry_2 : decode cX8_mayCarry 2 = .ok (.iconst 0, 1) := by decide +kernel
theorem dX8_mayCarry_3 : decode cX8_mayCarry 3 = .ok (.istore 4, 2) := by decide +kernel
theorem dX8_mayCarry_5 : decode cX8_mayCarry 5 = .ok (.iload 4, 2) := by decide +kernel
theorem dX8_mayCarry_7 : decode cX8_mayCarry 7 = .ok (.aload_n 0, 1) := by decide +kernel
theorem dX8_mayCarry_8 : decode cX8_mayCarry 8 = .ok (.getfield 13, 3) := by decide +kernel
theorem dX8_mayCarry_11 : decode cX8_mayCarry 11 = .ok (.iconst 0, 1) := by decide +kernel
theorem dX8_mayCarry_12 : decode cX8_mayCarry 12 = .ok (.iaload, 1) := by decide +kernel
theorem dX8_mayCarry_13 : decode cX8_mayCarry 13 = .ok (.if_icmp .ge 115, 3) := by decide +kernel
theorem dX8_mayCarry_16 : decode cX8_mayCarry 16 = .ok (.aload_n 0, 1) := by decide +kernel
theorem dX8_mayCarry_17 : decode cX8_mayCarry 17 = .ok (.getfield 31, 3) := by decide +kernel
theorem dX8_mayCarry_20 : decode cX8_mayCarry 20 = .ok (.iload 4, 2) := by decide +kernel
theorem dX8_mayCarry_22 : decode cX8_mayCarry 22 = .ok (.iaload, 1) := by decide +kernel
theorem dX8_mayCarry_23 : decode cX8_mayCarry 23 = .ok (.aload_n 0, 1) := by decide +kernel
theorem dX8_mayCarry_24 : decode cX8_mayCarry 24 = .ok (.getfield 31, 3) := by decide +kernel
theorem dX8_mayCarry_27 : decode cX8_mayCarry 27 = .ok (.iload_n 1, 1) := by decide +kernel
theorem dX8_mayCarry_28 : decode cX8_mayCarry 28 = .ok (.iaload, 1) := by decide +kernel
theorem dX8_mayCarry_29 : decode cX8_mayCarry 29 = .ok (.if_icmp .le 14, 3) := by decide +kernel
theorem dX8_mayCarry_32 : decode cX8_mayCarry 32 = .ok (.aload_n 0, 1) := by decide +kernel
theorem dX8_mayCarry_33 : decode cX8_mayCarry 33 = .ok (.getfield 31, 3) := by decide +kernel
theorem dX8_mayCarry_36 : decode cX8_mayCarry 36 = .ok (.iload 4, 2) := by decide +kernel
theorem dX8_mayCarry_38 : decode cX8_mayCarry 38 = .ok (.iaload, 1) := by decide +kernel
theorem dX8_mayCarry_39 : decode cX8_mayCarry 39 = .ok (.iload_n 2, 1) := by decide +kernel
theorem dX8_mayCarry_40 : decode cX8_mayCarry 40 = .ok (.if_icmp .lt 30, 3) := by decide +kernel
theorem dX8_mayCarry_43 : decode cX8_mayCarry 43 = .ok (.aload_n 0, 1) := by decide +kernel
theorem dX8_mayCarry_44 : decode cX8_mayCarry 44 = .ok (.getfield 31, 3) := by decide +kernel
theorem dX8_mayCarry_47 : decode cX8_mayCarry 47 = .ok (.iload 4, 2) := by decide +kernel
theorem dX8_mayCarry_49 : decode cX8_mayCarry 49 = .ok (.iaload, 1) := by decide +kernel
theorem dX8_mayCarry_50 : decode cX8_mayCarry 50 = .ok (.aload_n 0, 1) := by decide +kernel
theorem dX8_mayCarry_51 : decode cX8_mayCarry 51 = .ok (.getfield 31, 3) := by decide +kernel
theorem dX8_mayCarry_54 : decode cX8_mayCarry 54 = .ok (.iload_n 1, 1) := by decide +kernel
theorem dX8_mayCarry_55 : decode cX8_mayCarry 55 = .ok (.iaload, 1) := by decide +kernel
theorem dX8_mayCarry_56 : decode cX8_mayCarry 56 = .ok (.if_icmp .ge 18, 3) := by decide +kernel
theorem dX8_mayCarry_59 : decode cX8_mayCarry 59 = .ok (.aload_n 0, 1) := by decide +kernel
theorem dX8_mayCarry_60 : decode cX8_mayCarry 60 = .ok (.getfield 31, 3) := by decide +kernel
theorem dX8_mayCarry_63 : decode cX8_mayCarry 63 = .ok (.iload 4, 2) := by decide +kernel
theorem dX8_mayCarry_65 : decode cX8_mayCarry 65 = .ok (.iaload, 1) := by decide +kernel
theorem dX8_mayCarry_66 : decode cX8_mayCarry 66 = .ok (.iload_n 2, 1) := by decide +kernel
theorem dX8_mayCarry_67 : decode cX8_mayCarry 67 = .ok (.if_icmp .le 7, 3) := by decide +kernel
theorem dX8_mayCarry_70 : decode cX8_mayCarry 70 = .ok (.iconst 1, 1) := by decide +kernel
theorem dX8_mayCarry_71 : decode cX8_mayCarry 71 = .ok (.goto 4, 3) := by decide +kernel
theorem dX8_mayCarry_74 : decode cX8_mayCarry 74 = .ok (.iconst 0, 1) := by decide +kernel
theorem dX8_mayCarry_75 : decode cX8_mayCarry 75 = .ok (.istore 5, 2) := by decide +kernel
theorem dX8_mayCarry_77 : decode cX8_mayCarry 77 = .ok (.iload_n 3, 1) := by decide +kernel
theorem dX8_mayCarry_78 : decode cX8_mayCarry 78 = .ok (.ifCond .eq 42, 3) := by decide +kernel
theorem dX8_mayCarry_81 : decode cX8_mayCarry 81 = .ok (.aload_n 0, 1) := by decide +kernel
theorem dX8_mayCarry_82 : decode cX8_mayCarry 82 = .ok (.getfield 31, 3) := by decide +kernel
theorem dX8_mayCarry_85 : decode cX8_mayCarry 85 = .ok (.iload 4, 2) := by decide +kernel
theorem dX8_mayCarry_87 : decode cX8_mayCarry 87 = .ok (.iaload, 1) := by decide +kernel
theorem dX8_mayCarry_88 : decode cX8_mayCarry 88 = .ok (.iload_n 2, 1) := by decide +kernel
theorem dX8_mayCarry_89 : decode cX8_mayCarry 89 = .ok (.if_icmp .eq 31, 3) := by decide +kernel
theorem dX8_mayCarry_92 : decode cX8_mayCarry 92 = .ok (.iload 5, 2) := by decide +kernel
theorem dX8_mayCarry_94 : decode cX8_mayCarry 94 = .ok (.ifCond .eq 22, 3) := by decide +kernel
theorem dX8_mayCarry_97 : decode cX8_mayCarry 97 = .ok (.aload_n 0, 1) := by decide +kernel
theorem dX8_mayCarry_98 : decode cX8_mayCarry 98 = .ok (.getfield 13, 3) := by decide +kernel
theorem dX8_mayCarry_101 : decode cX8_mayCarry 101 = .ok (.bipush 21, 2) := by decide +kernel
theorem dX8_mayCarry_103 : decode cX8_mayCarry 103 = .ok (.iload 4, 2) := by decide +kernel
theorem dX8_mayCarry_105 : decode cX8_mayCarry 105 = .ok (.iadd, 1) := by decide +kernel
theorem dX8_mayCarry_106 : decode cX8_mayCarry 106 = .ok (.iaload, 1) := by decide +kernel
theorem dX8_mayCarry_107 : decode cX8_mayCarry 107 = .ok (.aload_n 0, 1) := by decide +kernel
theorem dX8_mayCarry_108 : decode cX8_mayCarry 108 = .ok (.getfield 13, 3) := by decide +kernel
theorem dX8_mayCarry_111 : decode cX8_mayCarry 111 = .ok (.iconst 2, 1) := by decide +kernel
theorem dX8_mayCarry_112 : decode cX8_mayCarry 112 = .ok (.iaload, 1) := by decide +kernel
theorem dX8_mayCarry_113 : decode cX8_mayCarry 113 = .ok (.if_icmp .le 7, 3) := by decide +kernel
theorem dX8_mayCarry_116 : decode cX8_mayCarry 116 = .ok (.iconst 1, 1) := by decide +kernel
theorem dX8_mayCarry_117 : decode cX8_mayCarry 117 = .ok (.goto 4, 3) := by decide +kernel
theorem dX8_mayCarry_120 : decode cX8_mayCarry 120 = .ok (.iconst 0, 1) := by decide +kernel
theorem dX8_mayCarry_121 : decode cX8_mayCarry 121 = .ok (.istore_n 3, 1) := by decide +kernel
theorem dX8_mayCarry_122 : decode cX8_mayCarry 122 = .ok (.iinc 4 1, 3) := by decide +kernel
theorem dX8_mayCarry_125 : decode cX8_mayCarry 125 = .ok (.goto (-120), 3) := by decide +kernel
theorem dX8_mayCarry_128 : decode cX8_mayCarry 128 = .ok (.iload_n 3, 1) := by decide +kernel
theorem dX8_mayCarry_129 : decode cX8_mayCarry 129 = .ok (.ireturn, 1) := by decide +kernel
theorem dX8_laysFars_0 : decode cX8_laysFars 0 = .ok (.aload_n 0, 1) := by decide +kernel
theorem dX8_laysFars_1 : decode cX8_laysFars 1 = .ok (.invokevirtual 155, 3) := by decide +kernel
theorem dX8_laysFars_4 : decode cX8_laysFars 4 = .ok (.istore_n 1, 1) := by decide +kernel
theorem dX8_laysFars_5 : decode cX8_laysFars 5 = .ok (.iconst 0, 1) := by decide +kernel
theorem dX8_laysFars_6 : decode cX8_laysFars 6 = .ok (.istore_n 2, 1) := by decide +kernel
theorem dX8_laysFars_7 : decode cX8_laysFars 7 = .ok (.iload_n 2, 1) := by decide +kernel
theorem dX8_laysFars_8 : decode cX8_laysFars 8 = .ok (.iload_n 1, 1) := by decide +kernel
theorem dX8_laysFars_9 : decode cX8_laysFars 9 = .ok (.if_icmp .ge 16, 3) := by decide +kernel
theorem dX8_laysFars_12 : decode cX8_laysFars 12 = .ok (.aload_n 0, 1) := by decide +kernel
theorem dX8_laysFars_13 : decode cX8_laysFars 13 = .ok (.getfield 37, 3) := by decide +kernel
theorem dX8_laysFars_16 : decode cX8_laysFars 16 = .ok (.iload_n 2, 1) := by decide +kernel
theorem dX8_laysFars_17 : decode cX8_laysFars 17 = .ok (.iconst (-1), 1) := by decide +kernel
theorem dX8_laysFars_18 : decode cX8_laysFars 18 = .ok (.iastore, 1) := by decide +kernel
theorem dX8_laysFars_19 : decode cX8_laysFars 19 = .ok (.iinc 2 1, 3) := by decide +kernel
theorem dX8_laysFars_22 : decode cX8_laysFars 22 = .ok (.goto (-15), 3) := by decide +kernel
theorem dX8_laysFars_25 : decode cX8_laysFars 25 = .ok (.iconst 0, 1) := by decide +kernel
theorem dX8_laysFars_26 : decode cX8_laysFars 26 = .ok (.istore_n 2, 1) := by decide +kernel
theorem dX8_laysFars_27 : decode cX8_laysFars 27 = .ok (.iload_n 2, 1) := by decide +kernel
theorem dX8_laysFars_28 : decode cX8_laysFars 28 = .ok (.aload_n 0, 1) := by decide +kernel
theorem dX8_laysFars_29 : decode cX8_laysFars 29 = .ok (.getfield 13, 3) := by decide +kernel
theorem dX8_laysFars_32 : decode cX8_laysFars 32 = .ok (.iconst 0, 1) := by decide +kernel
theorem dX8_laysFars_33 : decode cX8_laysFars 33 = .ok (.iaload, 1) := by decide +kernel
theorem dX8_laysFars_34 : decode cX8_laysFars 34 = .ok (.if_icmp .ge 20, 3) := by decide +kernel
theorem dX8_laysFars_37 : decode cX8_laysFars 37 = .ok (.aload_n 0, 1) := by decide +kernel
theorem dX8_laysFars_38 : decode cX8_laysFars 38 = .ok (.getfield 31, 3) := by decide +kernel
theorem dX8_laysFars_41 : decode cX8_laysFars 41 = .ok (.iload_n 2, 1) := by decide +kernel
theorem dX8_laysFars_42 : decode cX8_laysFars 42 = .ok (.aload_n 0, 1) := by decide +kernel
theorem dX8_laysFars_43 : decode cX8_laysFars 43 = .ok (.iload_n 2, 1) := by decide +kernel
theorem dX8_laysFars_44 : decode cX8_laysFars 44 = .ok (.invokevirtual 152, 3) := by decide +kernel
theorem dX8_laysFars_47 : decode cX8_laysFars 47 = .ok (.iastore, 1) := by decide +kernel
theorem dX8_laysFars_48 : decode cX8_laysFars 48 = .ok (.iinc 2 1, 3) := by decide +kernel
theorem dX8_laysFars_51 : decode cX8_laysFars 51 = .ok (.goto (-24), 3) := by decide +kernel
theorem dX8_laysFars_54 : decode cX8_laysFars 54 = .ok (.aload_n 0, 1) := by decide +kernel
theorem dX8_laysFars_55 : decode cX8_laysFars 55 = .ok (.getfield 37, 3) := by decide +kernel
theorem dX8_laysFars_58 : decode cX8_laysFars 58 = .ok (.aload_n 0, 1) := by decide +kernel
theorem dX8_laysFars_59 : decode cX8_laysFars 59 = .ok (.invokevirtual 158, 3) := by decide +kernel
theorem dX8_laysFars_62 : decode cX8_laysFars 62 = .ok (.iconst 0, 1) := by decide +kernel
theorem dX8_laysFars_63 : decode cX8_laysFars 63 = .ok (.iastore, 1) := by decide +kernel
theorem dX8_laysFars_64 : decode cX8_laysFars 64 = .ok (.iconst 1, 1) := by decide +kernel
theorem dX8_laysFars_65 : decode cX8_laysFars 65 = .ok (.istore_n 2, 1) := by decide +kernel
theorem dX8_laysFars_66 : decode cX8_laysFars 66 = .ok (.iconst 0, 1) := by decide +kernel
theorem dX8_laysFars_67 : decode cX8_laysFars 67 = .ok (.istore_n 3, 1) := by decide +kernel
theorem dX8_laysFars_68 : decode cX8_laysFars 68 = .ok (.iload_n 2, 1) := by decide +kernel
theorem dX8_laysFars_69 : decode cX8_laysFars 69 = .ok (.ifCond .eq 180, 3) := by decide +kernel
theorem dX8_laysFars_72 : decode cX8_laysFars 72 = .ok (.iconst 0, 1) := by decide +kernel
theorem dX8_laysFars_73 : decode cX8_laysFars 73 = .ok (.istore_n 2, 1) := by decide +kernel
theorem dX8_laysFars_74 : decode cX8_laysFars 74 = .ok (.iconst 0, 1) := by decide +kernel
theorem dX8_laysFars_75 : decode cX8_laysFars 75 = .ok (.istore 4, 2) := by decide +kernel
theorem dX8_laysFars_77 : decode cX8_laysFars 77 = .ok (.iload 4, 2) := by decide +kernel
theorem dX8_laysFars_79 : decode cX8_laysFars 79 = .ok (.iload_n 1, 1) := by decide +kernel
theorem dX8_laysFars_80 : decode cX8_laysFars 80 = .ok (.if_icmp .ge 163, 3) := by decide +kernel
theorem dX8_laysFars_83 : decode cX8_laysFars 83 = .ok (.aload_n 0, 1) := by decide +kernel
theorem dX8_laysFars_84 : decode cX8_laysFars 84 = .ok (.getfield 37, 3) := by decide +kernel
theorem dX8_laysFars_87 : decode cX8_laysFars 87 = .ok (.iload 4, 2) := by decide +kernel
theorem dX8_laysFars_89 : decode cX8_laysFars 89 = .ok (.iaload, 1) := by decide +kernel
theorem dX8_laysFars_90 : decode cX8_laysFars 90 = .ok (.iload_n 3, 1) := by decide +kernel
theorem dX8_laysFars_91 : decode cX8_laysFars 91 = .ok (.if_icmp .ne 146, 3) := by decide +kernel
theorem dX8_laysFars_94 : decode cX8_laysFars 94 = .ok (.aload_n 0, 1) := by decide +kernel
theorem dX8_laysFars_95 : decode cX8_laysFars 95 = .ok (.iload 4, 2) := by decide +kernel
theorem dX8_laysFars_97 : decode cX8_laysFars 97 = .ok (.invokevirtual 161, 3) := by decide +kernel
theorem dX8_laysFars_100 : decode cX8_laysFars 100 = .ok (.ifCond .eq 137, 3) := by decide +kernel
theorem dX8_laysFars_103 : decode cX8_laysFars 103 = .ok (.iconst 0, 1) := by decide +kernel
theorem dX8_laysFars_104 : decode cX8_laysFars 104 = .ok (.istore 5, 2) := by decide +kernel
theorem dX8_laysFars_106 : decode cX8_laysFars 106 = .ok (.iload 5, 2) := by decide +kernel
theorem dX8_laysFars_108 : decode cX8_laysFars 108 = .ok (.aload_n 0, 1) := by decide +kernel
theorem dX8_laysFars_109 : decode cX8_laysFars 109 = .ok (.getfield 13, 3) := by decide +kernel
theorem dX8_laysFars_112 : decode cX8_laysFars 112 = .ok (.iconst 0, 1) := by decide +kernel
theorem dX8_laysFars_113 : decode cX8_laysFars 113 = .ok (.iaload, 1) := by decide +kernel
theorem dX8_laysFars_114 : decode cX8_laysFars 114 = .ok (.if_icmp .ge 123, 3) := by decide +kernel
theorem dX8_laysFars_117 : decode cX8_laysFars 117 = .ok (.aload_n 0, 1) := by decide +kernel
theorem dX8_laysFars_118 : decode cX8_laysFars 118 = .ok (.getfield 31, 3) := by decide +kernel
theorem dX8_laysFars_121 : decode cX8_laysFars 121 = .ok (.iload 5, 2) := by decide +kernel
theorem dX8_laysFars_123 : decode cX8_laysFars 123 = .ok (.iaload, 1) := by decide +kernel
theorem dX8_laysFars_124 : decode cX8_laysFars 124 = .ok (.istore 6, 2) := by decide +kernel
theorem dX8_laysFars_126 : decode cX8_laysFars 126 = .ok (.iconst 0, 1) := by decide +kernel
theorem dX8_laysFars_127 : decode cX8_laysFars 127 = .ok (.istore 7, 2) := by decide +kernel
theorem dX8_laysFars_129 : decode cX8_laysFars 129 = .ok (.iload 7, 2) := by decide +kernel
theorem dX8_laysFars_131 : decode cX8_laysFars 131 = .ok (.aload_n 0, 1) := by decide +kernel
theorem dX8_laysFars_132 : decode cX8_laysFars 132 = .ok (.getfield 13, 3) := by decide +kernel
theorem dX8_laysFars_135 : decode cX8_laysFars 135 = .ok (.iconst 1, 1) := by decide +kernel
theorem dX8_laysFars_136 : decode cX8_laysFars 136 = .ok (.iaload, 1) := by decide +kernel
theorem dX8_laysFars_137 : decode cX8_laysFars 137 = .ok (.if_icmp .ge 94, 3) := by decide +kernel
theorem dX8_laysFars_140 : decode cX8_laysFars 140 = .ok (.aload_n 0, 1) := by decide +kernel
theorem dX8_laysFars_141 : decode cX8_laysFars 141 = .ok (.iload 5, 2) := by decide +kernel
theorem dX8_laysFars_143 : decode cX8_laysFars 143 = .ok (.iload 7, 2) := by decide +kernel
theorem dX8_laysFars_145 : decode cX8_laysFars 145 = .ok (.invokevirtual 164, 3) := by decide +kernel
theorem dX8_laysFars_148 : decode cX8_laysFars 148 = .ok (.ifCond .eq 77, 3) := by decide +kernel
theorem dX8_laysFars_151 : decode cX8_laysFars 151 = .ok (.aload_n 0, 1) := by decide +kernel
theorem dX8_laysFars_152 : decode cX8_laysFars 152 = .ok (.getfield 31, 3) := by decide +kernel
theorem dX8_laysFars_155 : decode cX8_laysFars 155 = .ok (.iload 5, 2) := by decide +kernel
theorem dX8_laysFars_157 : decode cX8_laysFars 157 = .ok (.iload 7, 2) := by decide +kernel
theorem dX8_laysFars_159 : decode cX8_laysFars 159 = .ok (.iastore, 1) := by decide +kernel
theorem dX8_laysFars_160 : decode cX8_laysFars 160 = .ok (.aload_n 0, 1) := by decide +kernel
theorem dX8_laysFars_161 : decode cX8_laysFars 161 = .ok (.invokevirtual 158, 3) := by decide +kernel
theorem dX8_laysFars_164 : decode cX8_laysFars 164 = .ok (.istore 8, 2) := by decide +kernel
theorem dX8_laysFars_166 : decode cX8_laysFars 166 = .ok (.aload_n 0, 1) := by decide +kernel
theorem dX8_laysFars_167 : decode cX8_laysFars 167 = .ok (.getfield 31, 3) := by decide +kernel
theorem dX8_laysFars_170 : decode cX8_laysFars 170 = .ok (.iload 5, 2) := by decide +kernel
theorem dX8_laysFars_172 : decode cX8_laysFars 172 = .ok (.iload 6, 2) := by decide +kernel
theorem dX8_laysFars_174 : decode cX8_laysFars 174 = .ok (.iastore, 1) := by decide +kernel
theorem dX8_laysFars_175 : decode cX8_laysFars 175 = .ok (.iload_n 2, 1) := by decide +kernel
theorem dX8_laysFars_176 : decode cX8_laysFars 176 = .ok (.ifCond .ne 13, 3) := by decide +kernel
theorem dX8_laysFars_179 : decode cX8_laysFars 179 = .ok (.aload_n 0, 1) := by decide +kernel
theorem dX8_laysFars_180 : decode cX8_laysFars 180 = .ok (.getfield 37, 3) := by decide +kernel
theorem dX8_laysFars_183 : decode cX8_laysFars 183 = .ok (.iload 8, 2) := by decide +kernel
theorem dX8_laysFars_185 : decode cX8_laysFars 185 = .ok (.iaload, 1) := by decide +kernel
theorem dX8_laysFars_186 : decode cX8_laysFars 186 = .ok (.ifCond .ge 7, 3) := by decide +kernel
theorem dX8_laysFars_189 : decode cX8_laysFars 189 = .ok (.iconst 1, 1) := by decide +kernel
theorem dX8_laysFars_190 : decode cX8_laysFars 190 = .ok (.goto 4, 3) := by decide +kernel
theorem dX8_laysFars_193 : decode cX8_laysFars 193 = .ok (.iconst 0, 1) := by decide +kernel
theorem dX8_laysFars_194 : decode cX8_laysFars 194 = .ok (.istore_n 2, 1) := by decide +kernel
theorem dX8_laysFars_195 : decode cX8_laysFars 195 = .ok (.aload_n 0, 1) := by decide +kernel
theorem dX8_laysFars_196 : decode cX8_laysFars 196 = .ok (.getfield 37, 3) := by decide +kernel
theorem dX8_laysFars_199 : decode cX8_laysFars 199 = .ok (.iload 8, 2) := by decide +kernel
theorem dX8_laysFars_201 : decode cX8_laysFars 201 = .ok (.aload_n 0, 1) := by decide +kernel
theorem dX8_laysFars_202 : decode cX8_laysFars 202 = .ok (.getfield 37, 3) := by decide +kernel
theorem dX8_laysFars_205 : decode cX8_laysFars 205 = .ok (.iload 8, 2) := by decide +kernel
theorem dX8_laysFars_207 : decode cX8_laysFars 207 = .ok (.iaload, 1) := by decide +kernel
theorem dX8_laysFars_208 : decode cX8_laysFars 208 = .ok (.ifCond .ge 9, 3) := by decide +kernel
theorem dX8_laysFars_211 : decode cX8_laysFars 211 = .ok (.iload_n 3, 1) := by decide +kernel
theorem dX8_laysFars_212 : decode cX8_laysFars 212 = .ok (.iconst 1, 1) := by decide +kernel
theorem dX8_laysFars_213 : decode cX8_laysFars 213 = .ok (.iadd, 1) := by decide +kernel
theorem dX8_laysFars_214 : decode cX8_laysFars 214 = .ok (.goto 10, 3) := by decide +kernel
theorem dX8_laysFars_217 : decode cX8_laysFars 217 = .ok (.aload_n 0, 1) := by decide +kernel
theorem dX8_laysFars_218 : decode cX8_laysFars 218 = .ok (.getfield 37, 3) := by decide +kernel
theorem dX8_laysFars_221 : decode cX8_laysFars 221 = .ok (.iload 8, 2) := by decide +kernel
theorem dX8_laysFars_223 : decode cX8_laysFars 223 = .ok (.iaload, 1) := by decide +kernel
theorem dX8_laysFars_224 : decode cX8_laysFars 224 = .ok (.iastore, 1) := by decide +kernel
theorem dX8_laysFars_225 : decode cX8_laysFars 225 = .ok (.iinc 7 1, 3) := by decide +kernel
theorem dX8_laysFars_228 : decode cX8_laysFars 228 = .ok (.goto (-99), 3) := by decide +kernel
theorem dX8_laysFars_231 : decode cX8_laysFars 231 = .ok (.iinc 5 1, 3) := by decide +kernel
theorem dX8_laysFars_234 : decode cX8_laysFars 234 = .ok (.goto (-128), 3) := by decide +kernel
theorem dX8_laysFars_237 : decode cX8_laysFars 237 = .ok (.iinc 4 1, 3) := by decide +kernel
theorem dX8_laysFars_240 : decode cX8_laysFars 240 = .ok (.goto (-163), 3) := by decide +kernel
theorem dX8_laysFars_243 : decode cX8_laysFars 243 = .ok (.iinc 3 1, 3) := by decide +kernel
theorem dX8_laysFars_246 : decode cX8_laysFars 246 = .ok (.goto (-178), 3) := by decide +kernel
theorem dX8_laysFars_249 : decode cX8_laysFars 249 = .ok (.return_, 1) := by decide +kernel
theorem dX8_moves_0 : decode cX8_moves 0 = .ok (.iload_n 1, 1) := by decide +kernel
theorem dX8_moves_1 : decode cX8_moves 1 = .ok (.iconst 0, 1) := by decide +kernel
theorem dX8_moves_2 : decode cX8_moves 2 = .ok (.iconst 1, 1) := by decide +kernel
theorem dX8_moves_3 : decode cX8_moves 3 = .ok (.invokestatic 53, 3) := by decide +kernel
theorem dX8_moves_6 : decode cX8_moves 6 = .ok (.ifCond .ne 5, 3) := by decide +kernel
theorem dX8_moves_9 : decode cX8_moves 9 = .ok (.iconst (-1), 1) := by decide +kernel
theorem dX8_moves_10 : decode cX8_moves 10 = .ok (.ireturn, 1) := by decide +kernel
theorem dX8_moves_11 : decode cX8_moves 11 = .ok (.aload_n 0, 1) := by decide +kernel
theorem dX8_moves_12 : decode cX8_moves 12 = .ok (.invokevirtual 121, 3) := by decide +kernel
theorem dX8_moves_15 : decode cX8_moves 15 = .ok (.aload_n 0, 1) := by decide +kernel
theorem dX8_moves_16 : decode cX8_moves 16 = .ok (.invokevirtual 167, 3) := by decide +kernel
theorem dX8_moves_19 : decode cX8_moves 19 = .ok (.aload_n 0, 1) := by decide +kernel
theorem dX8_moves_20 : decode cX8_moves 20 = .ok (.invokevirtual 121, 3) := by decide +kernel
theorem dX8_moves_23 : decode cX8_moves 23 = .ok (.aload_n 0, 1) := by decide +kernel
theorem dX8_moves_24 : decode cX8_moves 24 = .ok (.getfield 37, 3) := by decide +kernel
theorem dX8_moves_27 : decode cX8_moves 27 = .ok (.aload_n 0, 1) := by decide +kernel
theorem dX8_moves_28 : decode cX8_moves 28 = .ok (.invokevirtual 158, 3) := by decide +kernel
theorem dX8_moves_31 : decode cX8_moves 31 = .ok (.iaload, 1) := by decide +kernel
theorem dX8_moves_32 : decode cX8_moves 32 = .ok (.istore_n 2, 1) := by decide +kernel
theorem dX8_moves_33 : decode cX8_moves 33 = .ok (.iload_n 2, 1) := by decide +kernel
theorem dX8_moves_34 : decode cX8_moves 34 = .ok (.ifCond .ge 6, 3) := by decide +kernel
theorem dX8_moves_37 : decode cX8_moves 37 = .ok (.bipush (-4), 2) := by decide +kernel
theorem dX8_moves_39 : decode cX8_moves 39 = .ok (.ireturn, 1) := by decide +kernel
theorem dX8_moves_40 : decode cX8_moves 40 = .ok (.iload_n 1, 1) := by decide +kernel
theorem dX8_moves_41 : decode cX8_moves 41 = .ok (.ifCond .ne 5, 3) := by decide +kernel
theorem dX8_moves_44 : decode cX8_moves 44 = .ok (.iload_n 2, 1) := by decide +kernel
theorem dX8_moves_45 : decode cX8_moves 45 = .ok (.ireturn, 1) := by decide +kernel
theorem dX8_moves_46 : decode cX8_moves 46 = .ok (.bipush (-4), 2) := by decide +kernel
theorem dX8_moves_48 : decode cX8_moves 48 = .ok (.istore_n 3, 1) := by decide +kernel
theorem dX8_moves_49 : decode cX8_moves 49 = .ok (.aload_n 0, 1) := by decide +kernel
theorem dX8_moves_50 : decode cX8_moves 50 = .ok (.getfield 13, 3) := by decide +kernel
theorem dX8_moves_53 : decode cX8_moves 53 = .ok (.iconst 0, 1) := by decide +kernel
theorem dX8_moves_54 : decode cX8_moves 54 = .ok (.iaload, 1) := by decide +kernel
theorem dX8_moves_55 : decode cX8_moves 55 = .ok (.iconst 1, 1) := by decide +kernel
theorem dX8_moves_56 : decode cX8_moves 56 = .ok (.isub, 1) := by decide +kernel
theorem dX8_moves_57 : decode cX8_moves 57 = .ok (.istore 4, 2) := by decide +kernel
theorem dX8_moves_59 : decode cX8_moves 59 = .ok (.iload 4, 2) := by decide +kernel
theorem dX8_moves_61 : decode cX8_moves 61 = .ok (.ifCond .lt 96, 3) := by decide +kernel
theorem dX8_moves_64 : decode cX8_moves 64 = .ok (.iload_n 2, 1) := by decide +kernel
theorem dX8_moves_65 : decode cX8_moves 65 = .ok (.ifCond .le 92, 3) := by decide +kernel
theorem dX8_moves_68 : decode cX8_moves 68 = .ok (.aload_n 0, 1) := by decide +kernel
theorem dX8_moves_69 : decode cX8_moves 69 = .ok (.getfield 13, 3) := by decide +kernel
theorem dX8_moves_72 : decode cX8_moves 72 = .ok (.iconst 1, 1) := by decide +kernel
theorem dX8_moves_73 : decode cX8_moves 73 = .ok (.iaload, 1) := by decide +kernel
theorem dX8_moves_74 : decode cX8_moves 74 = .ok (.iconst 1, 1) := by decide +kernel
theorem dX8_moves_75 : decode cX8_moves 75 = .ok (.isub, 1) := by decide +kernel
theorem dX8_moves_76 : decode cX8_moves 76 = .ok (.istore 5, 2) := by decide +kernel
theorem dX8_moves_78 : decode cX8_moves 78 = .ok (.iload 5, 2) := by decide +kernel
theorem dX8_moves_80 : decode cX8_moves 80 = .ok (.ifCond .lt 71, 3) := by decide +kernel
theorem dX8_moves_83 : decode cX8_moves 83 = .ok (.aload_n 0, 1) := by decide +kernel
theorem dX8_moves_84 : decode cX8_moves 84 = .ok (.iload 4, 2) := by decide +kernel
theorem dX8_moves_86 : decode cX8_moves 86 = .ok (.iload 5, 2) := by decide +kernel
theorem dX8_moves_88 : decode cX8_moves 88 = .ok (.invokevirtual 164, 3) := by decide +kernel
theorem dX8_moves_91 : decode cX8_moves 91 = .ok (.ifCond .eq 54, 3) := by decide +kernel
theorem dX8_moves_94 : decode cX8_moves 94 = .ok (.aload_n 0, 1) := by decide +kernel
theorem dX8_moves_95 : decode cX8_moves 95 = .ok (.getfield 31, 3) := by decide +kernel
theorem dX8_moves_98 : decode cX8_moves 98 = .ok (.iload 4, 2) := by decide +kernel
theorem dX8_moves_100 : decode cX8_moves 100 = .ok (.iload 5, 2) := by decide +kernel
theorem dX8_moves_102 : decode cX8_moves 102 = .ok (.iastore, 1) := by decide +kernel
theorem dX8_moves_103 : decode cX8_moves 103 = .ok (.aload_n 0, 1) := by decide +kernel
theorem dX8_moves_104 : decode cX8_moves 104 = .ok (.getfield 37, 3) := by decide +kernel
theorem dX8_moves_107 : decode cX8_moves 107 = .ok (.aload_n 0, 1) := by decide +kernel
theorem dX8_moves_108 : decode cX8_moves 108 = .ok (.invokevirtual 158, 3) := by decide +kernel
theorem dX8_moves_111 : decode cX8_moves 111 = .ok (.iaload, 1) := by decide +kernel
theorem dX8_moves_112 : decode cX8_moves 112 = .ok (.iload_n 2, 1) := by decide +kernel
theorem dX8_moves_113 : decode cX8_moves 113 = .ok (.iconst 1, 1) := by decide +kernel
theorem dX8_moves_114 : decode cX8_moves 114 = .ok (.isub, 1) := by decide +kernel
theorem dX8_moves_115 : decode cX8_moves 115 = .ok (.if_icmp .ne 14, 3) := by decide +kernel
theorem dX8_moves_118 : decode cX8_moves 118 = .ok (.bipush 8, 2) := by decide +kernel
theorem dX8_moves_120 : decode cX8_moves 120 = .ok (.iload 4, 2) := by decide +kernel
theorem dX8_moves_122 : decode cX8_moves 122 = .ok (.imul, 1) := by decide +kernel
theorem dX8_moves_123 : decode cX8_moves 123 = .ok (.iload 5, 2) := by decide +kernel
theorem dX8_moves_125 : decode cX8_moves 125 = .ok (.iadd, 1) := by decide +kernel
theorem dX8_moves_126 : decode cX8_moves 126 = .ok (.goto 4, 3) := by decide +kernel
theorem dX8_moves_129 : decode cX8_moves 129 = .ok (.iload_n 3, 1) := by decide +kernel
theorem dX8_moves_130 : decode cX8_moves 130 = .ok (.istore_n 3, 1) := by decide +kernel
theorem dX8_moves_131 : decode cX8_moves 131 = .ok (.aload_n 0, 1) := by decide +kernel
theorem dX8_moves_132 : decode cX8_moves 132 = .ok (.getfield 31, 3) := by decide +kernel
theorem dX8_moves_135 : decode cX8_moves 135 = .ok (.iload 4, 2) := by decide +kernel
theorem dX8_moves_137 : decode cX8_moves 137 = .ok (.aload_n 0, 1) := by decide +kernel
theorem dX8_moves_138 : decode cX8_moves 138 = .ok (.getfield 19, 3) := by decide +kernel
theorem dX8_moves_141 : decode cX8_moves 141 = .ok (.iload 4, 2) := by decide +kernel
theorem dX8_moves_143 : decode cX8_moves 143 = .ok (.iaload, 1) := by decide +kernel
theorem dX8_moves_144 : decode cX8_moves 144 = .ok (.iastore, 1) := by decide +kernel
theorem dX8_moves_145 : decode cX8_moves 145 = .ok (.iinc 5 (-1), 3) := by decide +kernel
theorem dX8_moves_148 : decode cX8_moves 148 = .ok (.goto (-70), 3) := by decide +kernel
theorem dX8_moves_151 : decode cX8_moves 151 = .ok (.iinc 4 (-1), 3) := by decide +kernel
theorem dX8_moves_154 : decode cX8_moves 154 = .ok (.goto (-95), 3) := by decide +kernel
theorem dX8_moves_157 : decode cX8_moves 157 = .ok (.iload_n 3, 1) := by decide +kernel
theorem dX8_moves_158 : decode cX8_moves 158 = .ok (.ireturn, 1) := by decide +kernel
theorem dX8_best_0 : decode cX8_best 0 = .ok (.iload_n 1, 1) := by decide +kernel
theorem dX8_best_1 : decode cX8_best 1 = .ok (.iconst 0, 1) := by decide +kernel
theorem dX8_best_2 : decode cX8_best 2 = .ok (.bipush 7, 2) := by decide +kernel
theorem dX8_best_4 : decode cX8_best 4 = .ok (.invokestatic 53, 3) := by decide +kernel
theorem dX8_best_7 : decode cX8_best 7 = .ok (.ifCond .eq 16, 3) := by decide +kernel
theorem dX8_best_10 : decode cX8_best 10 = .ok (.iload_n 2, 1) := by decide +kernel
theorem dX8_best_11 : decode cX8_best 11 = .ok (.iconst (-1), 1) := by decide +kernel
theorem dX8_best_12 : decode cX8_best 12 = .ok (.if_icmp .eq 13, 3) := by decide +kernel
theorem dX8_best_15 : decode cX8_best 15 = .ok (.aload_n 0, 1) := by decide +kernel
theorem dX8_best_16 : decode cX8_best 16 = .ok (.iload_n 2, 1) := by decide +kernel
theorem dX8_best_17 : decode cX8_best 17 = .ok (.invokevirtual 118, 3) := by decide +kernel
theorem dX8_best_20 : decode cX8_best 20 = .ok (.ifCond .ne 5, 3) := by decide +kernel
theorem dX8_best_23 : decode cX8_best 23 = .ok (.iconst (-1), 1) := by decide +kernel
theorem dX8_best_24 : decode cX8_best 24 = .ok (.ireturn, 1) := by decide +kernel
theorem dX8_best_25 : decode cX8_best 25 = .ok (.aload_n 0, 1) := by decide +kernel
theorem dX8_best_26 : decode cX8_best 26 = .ok (.invokevirtual 121, 3) := by decide +kernel
theorem dX8_best_29 : decode cX8_best 29 = .ok (.aload_n 0, 1) := by decide +kernel
theorem dX8_best_30 : decode cX8_best 30 = .ok (.iload_n 1, 1) := by decide +kernel
theorem dX8_best_31 : decode cX8_best 31 = .ok (.putfield 99, 3) := by decide +kernel
theorem dX8_best_34 : decode cX8_best 34 = .ok (.bipush (-4), 2) := by decide +kernel
theorem dX8_best_36 : decode cX8_best 36 = .ok (.istore_n 3, 1) := by decide +kernel
theorem dX8_best_37 : decode cX8_best 37 = .ok (.iconst 0, 1) := by decide +kernel
theorem dX8_best_38 : decode cX8_best 38 = .ok (.istore 4, 2) := by decide +kernel
theorem dX8_best_40 : decode cX8_best 40 = .ok (.aload_n 0, 1) := by decide +kernel
theorem dX8_best_41 : decode cX8_best 41 = .ok (.invokevirtual 155, 3) := by decide +kernel
theorem dX8_best_44 : decode cX8_best 44 = .ok (.istore 5, 2) := by decide +kernel
theorem dX8_best_46 : decode cX8_best 46 = .ok (.iconst 0, 1) := by decide +kernel
theorem dX8_best_47 : decode cX8_best 47 = .ok (.istore 6, 2) := by decide +kernel
theorem dX8_best_49 : decode cX8_best 49 = .ok (.iload 6, 2) := by decide +kernel
theorem dX8_best_51 : decode cX8_best 51 = .ok (.iload 5, 2) := by decide +kernel
theorem dX8_best_53 : decode cX8_best 53 = .ok (.if_icmp .ge 92, 3) := by decide +kernel
theorem dX8_best_56 : decode cX8_best 56 = .ok (.aload_n 0, 1) := by decide +kernel
theorem dX8_best_57 : decode cX8_best 57 = .ok (.iload 6, 2) := by decide +kernel
theorem dX8_best_59 : decode cX8_best 59 = .ok (.invokevirtual 161, 3) := by decide +kernel
theorem dX8_best_62 : decode cX8_best 62 = .ok (.ifCond .eq 13, 3) := by decide +kernel
theorem dX8_best_65 : decode cX8_best 65 = .ok (.aload_n 0, 1) := by decide +kernel
theorem dX8_best_66 : decode cX8_best 66 = .ok (.invokevirtual 124, 3) := by decide +kernel
theorem dX8_best_69 : decode cX8_best 69 = .ok (.invokestatic 140, 3) := by decide +kernel
theorem dX8_best_72 : decode cX8_best 72 = .ok (.goto 5, 3) := by decide +kernel
theorem dX8_best_75 : decode cX8_best 75 = .ok (.bipush 99, 2) := by decide +kernel
theorem dX8_best_77 : decode cX8_best 77 = .ok (.istore 7, 2) := by decide +kernel
theorem dX8_best_79 : decode cX8_best 79 = .ok (.iload 7, 2) := by decide +kernel
theorem dX8_best_81 : decode cX8_best 81 = .ok (.bipush 99, 2) := by decide +kernel
theorem dX8_best_83 : decode cX8_best 83 = .ok (.if_icmp .ge 19, 3) := by decide +kernel
theorem dX8_best_86 : decode cX8_best 86 = .ok (.iload_n 3, 1) := by decide +kernel
theorem dX8_best_87 : decode cX8_best 87 = .ok (.bipush (-4), 2) := by decide +kernel
theorem dX8_best_89 : decode cX8_best 89 = .ok (.if_icmp .eq 9, 3) := by decide +kernel
theorem dX8_best_92 : decode cX8_best 92 = .ok (.iload 7, 2) := by decide +kernel
theorem dX8_best_94 : decode cX8_best 94 = .ok (.iload_n 3, 1) := by decide +kernel
theorem dX8_best_95 : decode cX8_best 95 = .ok (.if_icmp .ge 7, 3) := by decide +kernel
theorem dX8_best_98 : decode cX8_best 98 = .ok (.iconst 1, 1) := by decide +kernel
theorem dX8_best_99 : decode cX8_best 99 = .ok (.goto 4, 3) := by decide +kernel
theorem dX8_best_102 : decode cX8_best 102 = .ok (.iconst 0, 1) := by decide +kernel
theorem dX8_best_103 : decode cX8_best 103 = .ok (.istore 8, 2) := by decide +kernel
theorem dX8_best_105 : decode cX8_best 105 = .ok (.iload 8, 2) := by decide +kernel
theorem dX8_best_107 : decode cX8_best 107 = .ok (.ifCond .eq 8, 3) := by decide +kernel
theorem dX8_best_110 : decode cX8_best 110 = .ok (.iload 7, 2) := by decide +kernel
theorem dX8_best_112 : decode cX8_best 112 = .ok (.goto 4, 3) := by decide +kernel
theorem dX8_best_115 : decode cX8_best 115 = .ok (.iload_n 3, 1) := by decide +kernel
theorem dX8_best_116 : decode cX8_best 116 = .ok (.istore_n 3, 1) := by decide +kernel
theorem dX8_best_117 : decode cX8_best 117 = .ok (.iload 8, 2) := by decide +kernel
theorem dX8_best_119 : decode cX8_best 119 = .ok (.ifCond .eq 16, 3) := by decide +kernel
theorem dX8_best_122 : decode cX8_best 122 = .ok (.iload_n 2, 1) := by decide +kernel
theorem dX8_best_123 : decode cX8_best 123 = .ok (.ifCond .lt 12, 3) := by decide +kernel
theorem dX8_best_126 : decode cX8_best 126 = .ok (.aload_n 0, 1) := by decide +kernel
theorem dX8_best_127 : decode cX8_best 127 = .ok (.getfield 31, 3) := by decide +kernel
theorem dX8_best_130 : decode cX8_best 130 = .ok (.iload_n 2, 1) := by decide +kernel
theorem dX8_best_131 : decode cX8_best 131 = .ok (.iaload, 1) := by decide +kernel
theorem dX8_best_132 : decode cX8_best 132 = .ok (.goto 5, 3) := by decide +kernel
theorem dX8_best_135 : decode cX8_best 135 = .ok (.iload 4, 2) := by decide +kernel
theorem dX8_best_137 : decode cX8_best 137 = .ok (.istore 4, 2) := by decide +kernel
theorem dX8_best_139 : decode cX8_best 139 = .ok (.iinc 6 1, 3) := by decide +kernel
theorem dX8_best_142 : decode cX8_best 142 = .ok (.goto (-93), 3) := by decide +kernel
theorem dX8_best_145 : decode cX8_best 145 = .ok (.iload_n 2, 1) := by decide +kernel
theorem dX8_best_146 : decode cX8_best 146 = .ok (.ifCond .ge 7, 3) := by decide +kernel
theorem dX8_best_149 : decode cX8_best 149 = .ok (.iload_n 3, 1) := by decide +kernel
theorem dX8_best_150 : decode cX8_best 150 = .ok (.goto 5, 3) := by decide +kernel
theorem dX8_best_153 : decode cX8_best 153 = .ok (.iload 4, 2) := by decide +kernel
theorem dX8_best_155 : decode cX8_best 155 = .ok (.ireturn, 1) := by decide +kernel
theorem dX8_allNight_0 : decode cX8_allNight 0 = .ok (.iconst 0, 1) := by decide +kernel
theorem dX8_allNight_1 : decode cX8_allNight 1 = .ok (.istore_n 1, 1) := by decide +kernel
theorem dX8_allNight_2 : decode cX8_allNight 2 = .ok (.iconst 0, 1) := by decide +kernel
theorem dX8_allNight_3 : decode cX8_allNight 3 = .ok (.istore_n 2, 1) := by decide +kernel
theorem dX8_allNight_4 : decode cX8_allNight 4 = .ok (.iload_n 2, 1) := by decide +kernel
theorem dX8_allNight_5 : decode cX8_allNight 5 = .ok (.bipush 8, 2) := by decide +kernel
theorem dX8_allNight_7 : decode cX8_allNight 7 = .ok (.if_icmp .ge 24, 3) := by decide +kernel
theorem dX8_allNight_10 : decode cX8_allNight 10 = .ok (.aload_n 0, 1) := by decide +kernel
theorem dX8_allNight_11 : decode cX8_allNight 11 = .ok (.iload_n 2, 1) := by decide +kernel
theorem dX8_allNight_12 : decode cX8_allNight 12 = .ok (.putfield 99, 3) := by decide +kernel
theorem dX8_allNight_15 : decode cX8_allNight 15 = .ok (.iload_n 1, 1) := by decide +kernel
theorem dX8_allNight_16 : decode cX8_allNight 16 = .ok (.aload_n 0, 1) := by decide +kernel
theorem dX8_allNight_17 : decode cX8_allNight 17 = .ok (.invokevirtual 124, 3) := by decide +kernel
theorem dX8_allNight_20 : decode cX8_allNight 20 = .ok (.invokestatic 140, 3) := by decide +kernel
theorem dX8_allNight_23 : decode cX8_allNight 23 = .ok (.iadd, 1) := by decide +kernel
theorem dX8_allNight_24 : decode cX8_allNight 24 = .ok (.istore_n 1, 1) := by decide +kernel
theorem dX8_allNight_25 : decode cX8_allNight 25 = .ok (.iinc 2 1, 3) := by decide +kernel
theorem dX8_allNight_28 : decode cX8_allNight 28 = .ok (.goto (-24), 3) := by decide +kernel
theorem dX8_allNight_31 : decode cX8_allNight 31 = .ok (.iload_n 1, 1) := by decide +kernel
theorem dX8_allNight_32 : decode cX8_allNight 32 = .ok (.ireturn, 1) := by decide +kernel
theorem dX8_wallTo_0 : decode cX8_wallTo 0 = .ok (.iload_n 1, 1) := by decide +kernel
theorem dX8_wallTo_1 : decode cX8_wallTo 1 = .ok (.iconst 0, 1) := by decide +kernel
theorem dX8_wallTo_2 : decode cX8_wallTo 2 = .ok (.iconst 1, 1) := by decide +kernel
theorem dX8_wallTo_3 : decode cX8_wallTo 3 = .ok (.invokestatic 53, 3) := by decide +kernel
theorem dX8_wallTo_6 : decode cX8_wallTo 6 = .ok (.ifCond .ne 5, 3) := by decide +kernel
theorem dX8_wallTo_9 : decode cX8_wallTo 9 = .ok (.iconst (-1), 1) := by decide +kernel
theorem dX8_wallTo_10 : decode cX8_wallTo 10 = .ok (.ireturn, 1) := by decide +kernel
theorem dX8_wallTo_11 : decode cX8_wallTo 11 = .ok (.aload_n 0, 1) := by decide +kernel
theorem dX8_wallTo_12 : decode cX8_wallTo 12 = .ok (.invokevirtual 121, 3) := by decide +kernel
theorem dX8_wallTo_15 : decode cX8_wallTo 15 = .ok (.bipush (-4), 2) := by decide +kernel
theorem dX8_wallTo_17 : decode cX8_wallTo 17 = .ok (.istore_n 2, 1) := by decide +kernel
theorem dX8_wallTo_18 : decode cX8_wallTo 18 = .ok (.bipush (-4), 2) := by decide +kernel
theorem dX8_wallTo_20 : decode cX8_wallTo 20 = .ok (.istore_n 3, 1) := by decide +kernel
theorem dX8_wallTo_21 : decode cX8_wallTo 21 = .ok (.iconst 0, 1) := by decide +kernel
theorem dX8_wallTo_22 : decode cX8_wallTo 22 = .ok (.istore 4, 2) := by decide +kernel
theorem dX8_wallTo_24 : decode cX8_wallTo 24 = .ok (.iload 4, 2) := by decide +kernel
theorem dX8_wallTo_26 : decode cX8_wallTo 26 = .ok (.iconst 1, 1) := by decide +kernel
theorem dX8_wallTo_27 : decode cX8_wallTo 27 = .ok (.iadd, 1) := by decide +kernel
theorem dX8_wallTo_28 : decode cX8_wallTo 28 = .ok (.aload_n 0, 1) := by decide +kernel
theorem dX8_wallTo_29 : decode cX8_wallTo 29 = .ok (.getfield 13, 3) := by decide +kernel
theorem dX8_wallTo_32 : decode cX8_wallTo 32 = .ok (.iconst 1, 1) := by decide +kernel
theorem dX8_wallTo_33 : decode cX8_wallTo 33 = .ok (.iaload, 1) := by decide +kernel
theorem dX8_wallTo_34 : decode cX8_wallTo 34 = .ok (.if_icmp .ge 87, 3) := by decide +kernel
theorem dX8_wallTo_37 : decode cX8_wallTo 37 = .ok (.aload_n 0, 1) := by decide +kernel
theorem dX8_wallTo_38 : decode cX8_wallTo 38 = .ok (.getfield 19, 3) := by decide +kernel
theorem dX8_wallTo_41 : decode cX8_wallTo 41 = .ok (.iconst 5, 1) := by decide +kernel
theorem dX8_wallTo_42 : decode cX8_wallTo 42 = .ok (.iaload, 1) := by decide +kernel
theorem dX8_wallTo_43 : decode cX8_wallTo 43 = .ok (.iload 4, 2) := by decide +kernel
theorem dX8_wallTo_45 : decode cX8_wallTo 45 = .ok (.ishr, 1) := by decide +kernel
theorem dX8_wallTo_46 : decode cX8_wallTo 46 = .ok (.iconst 1, 1) := by decide +kernel
theorem dX8_wallTo_47 : decode cX8_wallTo 47 = .ok (.iand, 1) := by decide +kernel
theorem dX8_wallTo_48 : decode cX8_wallTo 48 = .ok (.ifCond .ne 67, 3) := by decide +kernel
theorem dX8_wallTo_51 : decode cX8_wallTo 51 = .ok (.aload_n 0, 1) := by decide +kernel
theorem dX8_wallTo_52 : decode cX8_wallTo 52 = .ok (.aload_n 0, 1) := by decide +kernel
theorem dX8_wallTo_53 : decode cX8_wallTo 53 = .ok (.getfield 19, 3) := by decide +kernel
theorem dX8_wallTo_56 : decode cX8_wallTo 56 = .ok (.iconst 5, 1) := by decide +kernel
theorem dX8_wallTo_57 : decode cX8_wallTo 57 = .ok (.iaload, 1) := by decide +kernel
theorem dX8_wallTo_58 : decode cX8_wallTo 58 = .ok (.iconst 1, 1) := by decide +kernel
theorem dX8_wallTo_59 : decode cX8_wallTo 59 = .ok (.iload 4, 2) := by decide +kernel
theorem dX8_wallTo_61 : decode cX8_wallTo 61 = .ok (.ishl, 1) := by decide +kernel
theorem dX8_wallTo_62 : decode cX8_wallTo 62 = .ok (.ior, 1) := by decide +kernel
theorem dX8_wallTo_63 : decode cX8_wallTo 63 = .ok (.putfield 96, 3) := by decide +kernel
theorem dX8_wallTo_66 : decode cX8_wallTo 66 = .ok (.aload_n 0, 1) := by decide +kernel
theorem dX8_wallTo_67 : decode cX8_wallTo 67 = .ok (.invokevirtual 170, 3) := by decide +kernel
theorem dX8_wallTo_70 : decode cX8_wallTo 70 = .ok (.istore 5, 2) := by decide +kernel
theorem dX8_wallTo_72 : decode cX8_wallTo 72 = .ok (.iload_n 2, 1) := by decide +kernel
theorem dX8_wallTo_73 : decode cX8_wallTo 73 = .ok (.bipush (-4), 2) := by decide +kernel
theorem dX8_wallTo_75 : decode cX8_wallTo 75 = .ok (.if_icmp .eq 9, 3) := by decide +kernel
theorem dX8_wallTo_78 : decode cX8_wallTo 78 = .ok (.iload 5, 2) := by decide +kernel
theorem dX8_wallTo_80 : decode cX8_wallTo 80 = .ok (.iload_n 3, 1) := by decide +kernel
theorem dX8_wallTo_81 : decode cX8_wallTo 81 = .ok (.if_icmp .ge 7, 3) := by decide +kernel
theorem dX8_wallTo_84 : decode cX8_wallTo 84 = .ok (.iconst 1, 1) := by decide +kernel
theorem dX8_wallTo_85 : decode cX8_wallTo 85 = .ok (.goto 4, 3) := by decide +kernel
theorem dX8_wallTo_88 : decode cX8_wallTo 88 = .ok (.iconst 0, 1) := by decide +kernel
theorem dX8_wallTo_89 : decode cX8_wallTo 89 = .ok (.istore 6, 2) := by decide +kernel
theorem dX8_wallTo_91 : decode cX8_wallTo 91 = .ok (.iload 6, 2) := by decide +kernel
theorem dX8_wallTo_93 : decode cX8_wallTo 93 = .ok (.ifCond .eq 8, 3) := by decide +kernel
theorem dX8_wallTo_96 : decode cX8_wallTo 96 = .ok (.iload 4, 2) := by decide +kernel
theorem dX8_wallTo_98 : decode cX8_wallTo 98 = .ok (.goto 4, 3) := by decide +kernel
theorem dX8_wallTo_101 : decode cX8_wallTo 101 = .ok (.iload_n 2, 1) := by decide +kernel
theorem dX8_wallTo_102 : decode cX8_wallTo 102 = .ok (.istore_n 2, 1) := by decide +kernel
theorem dX8_wallTo_103 : decode cX8_wallTo 103 = .ok (.iload 6, 2) := by decide +kernel
theorem dX8_wallTo_105 : decode cX8_wallTo 105 = .ok (.ifCond .eq 8, 3) := by decide +kernel
theorem dX8_wallTo_108 : decode cX8_wallTo 108 = .ok (.iload 5, 2) := by decide +kernel
theorem dX8_wallTo_110 : decode cX8_wallTo 110 = .ok (.goto 4, 3) := by decide +kernel
theorem dX8_wallTo_113 : decode cX8_wallTo 113 = .ok (.iload_n 3, 1) := by decide +kernel
theorem dX8_wallTo_114 : decode cX8_wallTo 114 = .ok (.istore_n 3, 1) := by decide +kernel
theorem dX8_wallTo_115 : decode cX8_wallTo 115 = .ok (.iinc 4 1, 3) := by decide +kernel
theorem dX8_wallTo_118 : decode cX8_wallTo 118 = .ok (.goto (-94), 3) := by decide +kernel
theorem dX8_wallTo_121 : decode cX8_wallTo 121 = .ok (.iload_n 1, 1) := by decide +kernel
theorem dX8_wallTo_122 : decode cX8_wallTo 122 = .ok (.ifCond .ne 7, 3) := by decide +kernel
theorem dX8_wallTo_125 : decode cX8_wallTo 125 = .ok (.iload_n 2, 1) := by decide +kernel
theorem dX8_wallTo_126 : decode cX8_wallTo 126 = .ok (.goto 4, 3) := by decide +kernel
theorem dX8_wallTo_129 : decode cX8_wallTo 129 = .ok (.iload_n 3, 1) := by decide +kernel
theorem dX8_wallTo_130 : decode cX8_wallTo 130 = .ok (.ireturn, 1) := by decide +kernel
theorem dX8_within_0 : decode cX8_within 0 = .ok (.iload_n 1, 1) := by decide +kernel
theorem dX8_within_1 : decode cX8_within 1 = .ok (.iconst 0, 1) := by decide +kernel
theorem dX8_within_2 : decode cX8_within 2 = .ok (.bipush 40, 2) := by decide +kernel
theorem dX8_within_4 : decode cX8_within 4 = .ok (.invokestatic 53, 3) := by decide +kernel
theorem dX8_within_7 : decode cX8_within 7 = .ok (.ifCond .eq 16, 3) := by decide +kernel
theorem dX8_within_10 : decode cX8_within 10 = .ok (.iload_n 2, 1) := by decide +kernel
theorem dX8_within_11 : decode cX8_within 11 = .ok (.iconst (-1), 1) := by decide +kernel
theorem dX8_within_12 : decode cX8_within 12 = .ok (.if_icmp .eq 13, 3) := by decide +kernel
theorem dX8_within_15 : decode cX8_within 15 = .ok (.aload_n 0, 1) := by decide +kernel
theorem dX8_within_16 : decode cX8_within 16 = .ok (.iload_n 2, 1) := by decide +kernel
theorem dX8_within_17 : decode cX8_within 17 = .ok (.invokevirtual 118, 3) := by decide +kernel
theorem dX8_within_20 : decode cX8_within 20 = .ok (.ifCond .ne 5, 3) := by decide +kernel
theorem dX8_within_23 : decode cX8_within 23 = .ok (.iconst (-1), 1) := by decide +kernel
theorem dX8_within_24 : decode cX8_within 24 = .ok (.ireturn, 1) := by decide +kernel
theorem dX8_within_25 : decode cX8_within 25 = .ok (.aload_n 0, 1) := by decide +kernel
theorem dX8_within_26 : decode cX8_within 26 = .ok (.invokevirtual 121, 3) := by decide +kernel
theorem dX8_within_29 : decode cX8_within 29 = .ok (.iconst 0, 1) := by decide +kernel
theorem dX8_within_30 : decode cX8_within 30 = .ok (.istore_n 3, 1) := by decide +kernel
theorem dX8_within_31 : decode cX8_within 31 = .ok (.bipush (-4), 2) := by decide +kernel
theorem dX8_within_33 : decode cX8_within 33 = .ok (.istore 4, 2) := by decide +kernel
theorem dX8_within_35 : decode cX8_within 35 = .ok (.aload_n 0, 1) := by decide +kernel
theorem dX8_within_36 : decode cX8_within 36 = .ok (.invokevirtual 155, 3) := by decide +kernel
theorem dX8_within_39 : decode cX8_within 39 = .ok (.istore 5, 2) := by decide +kernel
theorem dX8_within_41 : decode cX8_within 41 = .ok (.iconst 0, 1) := by decide +kernel
theorem dX8_within_42 : decode cX8_within 42 = .ok (.istore 6, 2) := by decide +kernel
theorem dX8_within_44 : decode cX8_within 44 = .ok (.iload 6, 2) := by decide +kernel
theorem dX8_within_46 : decode cX8_within 46 = .ok (.iload 5, 2) := by decide +kernel
theorem dX8_within_48 : decode cX8_within 48 = .ok (.if_icmp .ge 134, 3) := by decide +kernel
theorem dX8_within_51 : decode cX8_within 51 = .ok (.aload_n 0, 1) := by decide +kernel
theorem dX8_within_52 : decode cX8_within 52 = .ok (.iload 6, 2) := by decide +kernel
theorem dX8_within_54 : decode cX8_within 54 = .ok (.invokevirtual 161, 3) := by decide +kernel
theorem dX8_within_57 : decode cX8_within 57 = .ok (.istore 7, 2) := by decide +kernel
theorem dX8_within_59 : decode cX8_within 59 = .ok (.iconst 0, 1) := by decide +kernel
theorem dX8_within_60 : decode cX8_within 60 = .ok (.istore 8, 2) := by decide +kernel
theorem dX8_within_62 : decode cX8_within 62 = .ok (.iload 8, 2) := by decide +kernel
theorem dX8_within_64 : decode cX8_within 64 = .ok (.aload_n 0, 1) := by decide +kernel
theorem dX8_within_65 : decode cX8_within 65 = .ok (.getfield 13, 3) := by decide +kernel
theorem dX8_within_68 : decode cX8_within 68 = .ok (.iconst 0, 1) := by decide +kernel
theorem dX8_within_69 : decode cX8_within 69 = .ok (.iaload, 1) := by decide +kernel
theorem dX8_within_70 : decode cX8_within 70 = .ok (.if_icmp .ge 67, 3) := by decide +kernel
theorem dX8_within_73 : decode cX8_within 73 = .ok (.iconst 0, 1) := by decide +kernel
theorem dX8_within_74 : decode cX8_within 74 = .ok (.istore 9, 2) := by decide +kernel
theorem dX8_within_76 : decode cX8_within 76 = .ok (.iload 9, 2) := by decide +kernel
theorem dX8_within_78 : decode cX8_within 78 = .ok (.iload 8, 2) := by decide +kernel
theorem dX8_within_80 : decode cX8_within 80 = .ok (.if_icmp .ge 51, 3) := by decide +kernel
theorem dX8_within_83 : decode cX8_within 83 = .ok (.iload 7, 2) := by decide +kernel
theorem dX8_within_85 : decode cX8_within 85 = .ok (.ifCond .eq 37, 3) := by decide +kernel
theorem dX8_within_88 : decode cX8_within 88 = .ok (.aload_n 0, 1) := by decide +kernel
theorem dX8_within_89 : decode cX8_within 89 = .ok (.iload 8, 2) := by decide +kernel
theorem dX8_within_91 : decode cX8_within 91 = .ok (.iload 9, 2) := by decide +kernel
theorem dX8_within_93 : decode cX8_within 93 = .ok (.invokevirtual 105, 3) := by decide +kernel
theorem dX8_within_96 : decode cX8_within 96 = .ok (.ifCond .eq 22, 3) := by decide +kernel
theorem dX8_within_99 : decode cX8_within 99 = .ok (.aload_n 0, 1) := by decide +kernel
theorem dX8_within_100 : decode cX8_within 100 = .ok (.iload 8, 2) := by decide +kernel
theorem dX8_within_102 : decode cX8_within 102 = .ok (.invokevirtual 109, 3) := by decide +kernel
theorem dX8_within_105 : decode cX8_within 105 = .ok (.aload_n 0, 1) := by decide +kernel
theorem dX8_within_106 : decode cX8_within 106 = .ok (.iload 9, 2) := by decide +kernel
theorem dX8_within_108 : decode cX8_within 108 = .ok (.invokevirtual 109, 3) := by decide +kernel
theorem dX8_within_111 : decode cX8_within 111 = .ok (.invokestatic 136, 3) := by decide +kernel
theorem dX8_within_114 : decode cX8_within 114 = .ok (.iload_n 1, 1) := by decide +kernel
theorem dX8_within_115 : decode cX8_within 115 = .ok (.if_icmp .gt 7, 3) := by decide +kernel
theorem dX8_within_118 : decode cX8_within 118 = .ok (.iconst 1, 1) := by decide +kernel
theorem dX8_within_119 : decode cX8_within 119 = .ok (.goto 4, 3) := by decide +kernel
theorem dX8_within_122 : decode cX8_within 122 = .ok (.iconst 0, 1) := by decide +kernel
theorem dX8_within_123 : decode cX8_within 123 = .ok (.istore 7, 2) := by decide +kernel
theorem dX8_within_125 : decode cX8_within 125 = .ok (.iinc 9 1, 3) := by decide +kernel
theorem dX8_within_128 : decode cX8_within 128 = .ok (.goto (-52), 3) := by decide +kernel
theorem dX8_within_131 : decode cX8_within 131 = .ok (.iinc 8 1, 3) := by decide +kernel
theorem dX8_within_134 : decode cX8_within 134 = .ok (.goto (-72), 3) := by decide +kernel
theorem dX8_within_137 : decode cX8_within 137 = .ok (.iload 7, 2) := by decide +kernel
theorem dX8_within_139 : decode cX8_within 139 = .ok (.ifCond .eq 20, 3) := by decide +kernel
theorem dX8_within_142 : decode cX8_within 142 = .ok (.iload_n 3, 1) := by decide +kernel
theorem dX8_within_143 : decode cX8_within 143 = .ok (.ifCond .ne 16, 3) := by decide +kernel
theorem dX8_within_146 : decode cX8_within 146 = .ok (.iload_n 2, 1) := by decide +kernel
theorem dX8_within_147 : decode cX8_within 147 = .ok (.ifCond .lt 12, 3) := by decide +kernel
theorem dX8_within_150 : decode cX8_within 150 = .ok (.aload_n 0, 1) := by decide +kernel
theorem dX8_within_151 : decode cX8_within 151 = .ok (.getfield 31, 3) := by decide +kernel
theorem dX8_within_154 : decode cX8_within 154 = .ok (.iload_n 2, 1) := by decide +kernel
theorem dX8_within_155 : decode cX8_within 155 = .ok (.iaload, 1) := by decide +kernel
theorem dX8_within_156 : decode cX8_within 156 = .ok (.goto 5, 3) := by decide +kernel
theorem dX8_within_159 : decode cX8_within 159 = .ok (.iload 4, 2) := by decide +kernel
theorem dX8_within_161 : decode cX8_within 161 = .ok (.istore 4, 2) := by decide +kernel
theorem dX8_within_163 : decode cX8_within 163 = .ok (.iload_n 3, 1) := by decide +kernel
theorem dX8_within_164 : decode cX8_within 164 = .ok (.iload 7, 2) := by decide +kernel
theorem dX8_within_166 : decode cX8_within 166 = .ok (.ifCond .eq 7, 3) := by decide +kernel
theorem dX8_within_169 : decode cX8_within 169 = .ok (.iconst 1, 1) := by decide +kernel
theorem dX8_within_170 : decode cX8_within 170 = .ok (.goto 4, 3) := by decide +kernel
theorem dX8_within_173 : decode cX8_within 173 = .ok (.iconst 0, 1) := by decide +kernel
theorem dX8_within_174 : decode cX8_within 174 = .ok (.iadd, 1) := by decide +kernel
theorem dX8_within_175 : decode cX8_within 175 = .ok (.istore_n 3, 1) := by decide +kernel
theorem dX8_within_176 : decode cX8_within 176 = .ok (.iinc 6 1, 3) := by decide +kernel
theorem dX8_within_179 : decode cX8_within 179 = .ok (.goto (-135), 3) := by decide +kernel
theorem dX8_within_182 : decode cX8_within 182 = .ok (.iload_n 2, 1) := by decide +kernel
theorem dX8_within_183 : decode cX8_within 183 = .ok (.ifCond .lt 8, 3) := by decide +kernel
theorem dX8_within_186 : decode cX8_within 186 = .ok (.iload 4, 2) := by decide +kernel
theorem dX8_within_188 : decode cX8_within 188 = .ok (.goto 13, 3) := by decide +kernel
theorem dX8_within_191 : decode cX8_within 191 = .ok (.iload_n 3, 1) := by decide +kernel
theorem dX8_within_192 : decode cX8_within 192 = .ok (.ifCond .ne 8, 3) := by decide +kernel
theorem dX8_within_195 : decode cX8_within 195 = .ok (.bipush (-4), 2) := by decide +kernel
theorem dX8_within_197 : decode cX8_within 197 = .ok (.goto 4, 3) := by decide +kernel
theorem dX8_within_200 : decode cX8_within 200 = .ok (.iload_n 3, 1) := by decide +kernel
theorem dX8_within_201 : decode cX8_within 201 = .ok (.ireturn, 1) := by decide +kernel
theorem dX8_night_0 : decode cX8_night 0 = .ok (.iload_n 1, 1) := by decide +kernel
theorem dX8_night_1 : decode cX8_night 1 = .ok (.iconst (-1), 1) := by decide +kernel
theorem dX8_night_2 : decode cX8_night 2 = .ok (.bipush 7, 2) := by decide +kernel
theorem dX8_night_4 : decode cX8_night 4 = .ok (.invokestatic 53, 3) := by decide +kernel
theorem dX8_night_7 : decode cX8_night 7 = .ok (.ifCond .ne 5, 3) := by decide +kernel
theorem dX8_night_10 : decode cX8_night 10 = .ok (.iconst (-1), 1) := by decide +kernel
theorem dX8_night_11 : decode cX8_night 11 = .ok (.ireturn, 1) := by decide +kernel
theorem dX8_night_12 : decode cX8_night 12 = .ok (.aload_n 0, 1) := by decide +kernel
theorem dX8_night_13 : decode cX8_night 13 = .ok (.invokevirtual 121, 3) := by decide +kernel
theorem dX8_night_16 : decode cX8_night 16 = .ok (.iload_n 1, 1) := by decide +kernel
theorem dX8_night_17 : decode cX8_night 17 = .ok (.ifCond .ge 8, 3) := by decide +kernel
theorem dX8_night_20 : decode cX8_night 20 = .ok (.aload_n 0, 1) := by decide +kernel
theorem dX8_night_21 : decode cX8_night 21 = .ok (.invokevirtual 170, 3) := by decide +kernel
theorem dX8_night_24 : decode cX8_night 24 = .ok (.ireturn, 1) := by decide +kernel
theorem dX8_night_25 : decode cX8_night 25 = .ok (.aload_n 0, 1) := by decide +kernel
theorem dX8_night_26 : decode cX8_night 26 = .ok (.iload_n 1, 1) := by decide +kernel
theorem dX8_night_27 : decode cX8_night 27 = .ok (.putfield 99, 3) := by decide +kernel
theorem dX8_night_30 : decode cX8_night 30 = .ok (.aload_n 0, 1) := by decide +kernel
theorem dX8_night_31 : decode cX8_night 31 = .ok (.invokevirtual 124, 3) := by decide +kernel
theorem dX8_night_34 : decode cX8_night 34 = .ok (.ireturn, 1) := by decide +kernel
theorem dX8_heard_0 : decode cX8_heard 0 = .ok (.aload_n 0, 1) := by decide +kernel
theorem dX8_heard_1 : decode cX8_heard 1 = .ok (.iload_n 1, 1) := by decide +kernel
theorem dX8_heard_2 : decode cX8_heard 2 = .ok (.invokevirtual 118, 3) := by decide +kernel
theorem dX8_heard_5 : decode cX8_heard 5 = .ok (.ifCond .eq 22, 3) := by decide +kernel
theorem dX8_heard_8 : decode cX8_heard 8 = .ok (.iload_n 2, 1) := by decide +kernel
theorem dX8_heard_9 : decode cX8_heard 9 = .ok (.iconst 0, 1) := by decide +kernel
theorem dX8_heard_10 : decode cX8_heard 10 = .ok (.bipush 7, 2) := by decide +kernel
theorem dX8_heard_12 : decode cX8_heard 12 = .ok (.invokestatic 53, 3) := by decide +kernel
theorem dX8_heard_15 : decode cX8_heard 15 = .ok (.ifCond .eq 12, 3) := by decide +kernel
theorem dX8_heard_18 : decode cX8_heard 18 = .ok (.iload_n 3, 1) := by decide +kernel
theorem dX8_heard_19 : decode cX8_heard 19 = .ok (.iconst 0, 1) := by decide +kernel
theorem dX8_heard_20 : decode cX8_heard 20 = .ok (.iconst 1, 1) := by decide +kernel
theorem dX8_heard_21 : decode cX8_heard 21 = .ok (.invokestatic 53, 3) := by decide +kernel
theorem dX8_heard_24 : decode cX8_heard 24 = .ok (.ifCond .ne 5, 3) := by decide +kernel
theorem dX8_heard_27 : decode cX8_heard 27 = .ok (.iconst (-1), 1) := by decide +kernel
theorem dX8_heard_28 : decode cX8_heard 28 = .ok (.ireturn, 1) := by decide +kernel
theorem dX8_heard_29 : decode cX8_heard 29 = .ok (.aload_n 0, 1) := by decide +kernel
theorem dX8_heard_30 : decode cX8_heard 30 = .ok (.getfield 93, 3) := by decide +kernel
theorem dX8_heard_33 : decode cX8_heard 33 = .ok (.bipush 8, 2) := by decide +kernel
theorem dX8_heard_35 : decode cX8_heard 35 = .ok (.if_icmp .ne 6, 3) := by decide +kernel
theorem dX8_heard_38 : decode cX8_heard 38 = .ok (.bipush (-3), 2) := by decide +kernel
theorem dX8_heard_40 : decode cX8_heard 40 = .ok (.ireturn, 1) := by decide +kernel
theorem dX8_heard_41 : decode cX8_heard 41 = .ok (.aload_n 0, 1) := by decide +kernel
theorem dX8_heard_42 : decode cX8_heard 42 = .ok (.getfield 28, 3) := by decide +kernel
theorem dX8_heard_45 : decode cX8_heard 45 = .ok (.aload_n 0, 1) := by decide +kernel
theorem dX8_heard_46 : decode cX8_heard 46 = .ok (.getfield 93, 3) := by decide +kernel
theorem dX8_heard_49 : decode cX8_heard 49 = .ok (.bipush 100, 2) := by decide +kernel
theorem dX8_heard_51 : decode cX8_heard 51 = .ok (.iload_n 1, 1) := by decide +kernel
theorem dX8_heard_52 : decode cX8_heard 52 = .ok (.imul, 1) := by decide +kernel
theorem dX8_heard_53 : decode cX8_heard 53 = .ok (.bipush 10, 2) := by decide +kernel
theorem dX8_heard_55 : decode cX8_heard 55 = .ok (.iload_n 2, 1) := by decide +kernel
theorem dX8_heard_56 : decode cX8_heard 56 = .ok (.imul, 1) := by decide +kernel
theorem dX8_heard_57 : decode cX8_heard 57 = .ok (.iadd, 1) := by decide +kernel
theorem dX8_heard_58 : decode cX8_heard 58 = .ok (.iload_n 3, 1) := by decide +kernel
theorem dX8_heard_59 : decode cX8_heard 59 = .ok (.iadd, 1) := by decide +kernel
theorem dX8_heard_60 : decode cX8_heard 60 = .ok (.iastore, 1) := by decide +kernel
theorem dX8_heard_61 : decode cX8_heard 61 = .ok (.aload_n 0, 1) := by decide +kernel
theorem dX8_heard_62 : decode cX8_heard 62 = .ok (.dup, 1) := by decide +kernel
theorem dX8_heard_63 : decode cX8_heard 63 = .ok (.getfield 93, 3) := by decide +kernel
theorem dX8_heard_66 : decode cX8_heard 66 = .ok (.iconst 1, 1) := by decide +kernel
theorem dX8_heard_67 : decode cX8_heard 67 = .ok (.iadd, 1) := by decide +kernel
theorem dX8_heard_68 : decode cX8_heard 68 = .ok (.putfield 93, 3) := by decide +kernel
theorem dX8_heard_71 : decode cX8_heard 71 = .ok (.aload_n 0, 1) := by decide +kernel
theorem dX8_heard_72 : decode cX8_heard 72 = .ok (.getfield 93, 3) := by decide +kernel
theorem dX8_heard_75 : decode cX8_heard 75 = .ok (.ireturn, 1) := by decide +kernel
theorem dX8_forget_0 : decode cX8_forget 0 = .ok (.aload_n 0, 1) := by decide +kernel
theorem dX8_forget_1 : decode cX8_forget 1 = .ok (.getfield 93, 3) := by decide +kernel
theorem dX8_forget_4 : decode cX8_forget 4 = .ok (.istore_n 1, 1) := by decide +kernel
theorem dX8_forget_5 : decode cX8_forget 5 = .ok (.aload_n 0, 1) := by decide +kernel
theorem dX8_forget_6 : decode cX8_forget 6 = .ok (.iconst 0, 1) := by decide +kernel
theorem dX8_forget_7 : decode cX8_forget 7 = .ok (.putfield 93, 3) := by decide +kernel
theorem dX8_forget_10 : decode cX8_forget 10 = .ok (.iload_n 1, 1) := by decide +kernel
theorem dX8_forget_11 : decode cX8_forget 11 = .ok (.ireturn, 1) := by decide +kernel
theorem dX8_feigned_0 : decode cX8_feigned 0 = .ok (.aload_n 0, 1) := by decide +kernel
theorem dX8_feigned_1 : decode cX8_feigned 1 = .ok (.invokevirtual 121, 3) := by decide +kernel
theorem dX8_feigned_4 : decode cX8_feigned 4 = .ok (.iconst 0, 1) := by decide +kernel
theorem dX8_feigned_5 : decode cX8_feigned 5 = .ok (.istore_n 1, 1) := by decide +kernel
theorem dX8_feigned_6 : decode cX8_feigned 6 = .ok (.iconst 0, 1) := by decide +kernel
theorem dX8_feigned_7 : decode cX8_feigned 7 = .ok (.istore_n 2, 1) := by decide +kernel
theorem dX8_feigned_8 : decode cX8_feigned 8 = .ok (.iload_n 2, 1) := by decide +kernel
theorem dX8_feigned_9 : decode cX8_feigned 9 = .ok (.aload_n 0, 1) := by decide +kernel
theorem dX8_feigned_10 : decode cX8_feigned 10 = .ok (.getfield 13, 3) := by decide +kernel
theorem dX8_feigned_13 : decode cX8_feigned 13 = .ok (.iconst 0, 1) := by decide +kernel
theorem dX8_feigned_14 : decode cX8_feigned 14 = .ok (.iaload, 1) := by decide +kernel
theorem dX8_feigned_15 : decode cX8_feigned 15 = .ok (.if_icmp .ge 156, 3) := by decide +kernel
theorem dX8_feigned_18 : decode cX8_feigned 18 = .ok (.iconst 0, 1) := by decide +kernel
theorem dX8_feigned_19 : decode cX8_feigned 19 = .ok (.istore_n 3, 1) := by decide +kernel
theorem dX8_feigned_20 : decode cX8_feigned 20 = .ok (.iload_n 3, 1) := by decide +kernel
theorem dX8_feigned_21 : decode cX8_feigned 21 = .ok (.aload_n 0, 1) := by decide +kernel
theorem dX8_feigned_22 : decode cX8_feigned 22 = .ok (.getfield 13, 3) := by decide +kernel
theorem dX8_feigned_25 : decode cX8_feigned 25 = .ok (.iconst 0, 1) := by decide +kernel
theorem dX8_feigned_26 : decode cX8_feigned 26 = .ok (.iaload, 1) := by decide +kernel
theorem dX8_feigned_27 : decode cX8_feigned 27 = .ok (.if_icmp .ge 47, 3) := by decide +kernel
theorem dX8_feigned_30 : decode cX8_feigned 30 = .ok (.aload_n 0, 1) := by decide +kernel
theorem dX8_feigned_31 : decode cX8_feigned 31 = .ok (.getfield 13, 3) := by decide +kernel
theorem dX8_feigned_34 : decode cX8_feigned 34 = .ok (.bipush 6, 2) := by decide +kernel
theorem dX8_feigned_36 : decode cX8_feigned 36 = .ok (.iload_n 3, 1) := by decide +kernel
theorem dX8_feigned_37 : decode cX8_feigned 37 = .ok (.iadd, 1) := by decide +kernel
theorem dX8_feigned_38 : decode cX8_feigned 38 = .ok (.iaload, 1) := by decide +kernel
theorem dX8_feigned_39 : decode cX8_feigned 39 = .ok (.istore 4, 2) := by decide +kernel
theorem dX8_feigned_41 : decode cX8_feigned 41 = .ok (.aload_n 0, 1) := by decide +kernel
theorem dX8_feigned_42 : decode cX8_feigned 42 = .ok (.getfield 34, 3) := by decide +kernel
theorem dX8_feigned_45 : decode cX8_feigned 45 = .ok (.iload_n 3, 1) := by decide +kernel
theorem dX8_feigned_46 : decode cX8_feigned 46 = .ok (.iload_n 3, 1) := by decide +kernel
theorem dX8_feigned_47 : decode cX8_feigned 47 = .ok (.iload_n 2, 1) := by decide +kernel
theorem dX8_feigned_48 : decode cX8_feigned 48 = .ok (.if_icmp .ne 7, 3) := by decide +kernel
theorem dX8_feigned_51 : decode cX8_feigned 51 = .ok (.iconst 3, 1) := by decide +kernel
theorem dX8_feigned_52 : decode cX8_feigned 52 = .ok (.goto 15, 3) := by decide +kernel
theorem dX8_feigned_55 : decode cX8_feigned 55 = .ok (.iload 4, 2) := by decide +kernel
theorem dX8_feigned_57 : decode cX8_feigned 57 = .ok (.iconst 3, 1) := by decide +kernel
theorem dX8_feigned_58 : decode cX8_feigned 58 = .ok (.if_icmp .ne 7, 3) := by decide +kernel
theorem dX8_feigned_61 : decode cX8_feigned 61 = .ok (.iconst 0, 1) := by decide +kernel
theorem dX8_feigned_62 : decode cX8_feigned 62 = .ok (.goto 5, 3) := by decide +kernel
theorem dX8_feigned_65 : decode cX8_feigned 65 = .ok (.iload 4, 2) := by decide +kernel
theorem dX8_feigned_67 : decode cX8_feigned 67 = .ok (.iastore, 1) := by decide +kernel
theorem dX8_feigned_68 : decode cX8_feigned 68 = .ok (.iinc 3 1, 3) := by decide +kernel
theorem dX8_feigned_71 : decode cX8_feigned 71 = .ok (.goto (-51), 3) := by decide +kernel
theorem dX8_feigned_74 : decode cX8_feigned 74 = .ok (.iconst 1, 1) := by decide +kernel
theorem dX8_feigned_75 : decode cX8_feigned 75 = .ok (.istore_n 3, 1) := by decide +kernel
theorem dX8_feigned_76 : decode cX8_feigned 76 = .ok (.iconst 0, 1) := by decide +kernel
theorem dX8_feigned_77 : decode cX8_feigned 77 = .ok (.istore 4, 2) := by decide +kernel
theorem dX8_feigned_79 : decode cX8_feigned 79 = .ok (.iload 4, 2) := by decide +kernel
theorem dX8_feigned_81 : decode cX8_feigned 81 = .ok (.aload_n 0, 1) := by decide +kernel
theorem dX8_feigned_82 : decode cX8_feigned 82 = .ok (.getfield 93, 3) := by decide +kernel
theorem dX8_feigned_85 : decode cX8_feigned 85 = .ok (.if_icmp .ge 66, 3) := by decide +kernel
theorem dX8_feigned_88 : decode cX8_feigned 88 = .ok (.aload_n 0, 1) := by decide +kernel
theorem dX8_feigned_89 : decode cX8_feigned 89 = .ok (.aload_n 0, 1) := by decide +kernel
theorem dX8_feigned_90 : decode cX8_feigned 90 = .ok (.getfield 28, 3) := by decide +kernel
theorem dX8_feigned_93 : decode cX8_feigned 93 = .ok (.iload 4, 2) := by decide +kernel
theorem dX8_feigned_95 : decode cX8_feigned 95 = .ok (.iaload, 1) := by decide +kernel
theorem dX8_feigned_96 : decode cX8_feigned 96 = .ok (.bipush 10, 2) := by decide +kernel
theorem dX8_feigned_98 : decode cX8_feigned 98 = .ok (.idiv, 1) := by decide +kernel
theorem dX8_feigned_99 : decode cX8_feigned 99 = .ok (.bipush 10, 2) := by decide +kernel
theorem dX8_feigned_101 : decode cX8_feigned 101 = .ok (.irem, 1) := by decide +kernel
theorem dX8_feigned_102 : decode cX8_feigned 102 = .ok (.putfield 99, 3) := by decide +kernel
theorem dX8_feigned_105 : decode cX8_feigned 105 = .ok (.iload_n 3, 1) := by decide +kernel
theorem dX8_feigned_106 : decode cX8_feigned 106 = .ok (.ifCond .eq 37, 3) := by decide +kernel
theorem dX8_feigned_109 : decode cX8_feigned 109 = .ok (.aload_n 0, 1) := by decide +kernel
theorem dX8_feigned_110 : decode cX8_feigned 110 = .ok (.invokevirtual 124, 3) := by decide +kernel
theorem dX8_feigned_113 : decode cX8_feigned 113 = .ok (.aload_n 0, 1) := by decide +kernel
theorem dX8_feigned_114 : decode cX8_feigned 114 = .ok (.getfield 28, 3) := by decide +kernel
theorem dX8_feigned_117 : decode cX8_feigned 117 = .ok (.iload 4, 2) := by decide +kernel
theorem dX8_feigned_119 : decode cX8_feigned 119 = .ok (.iaload, 1) := by decide +kernel
theorem dX8_feigned_120 : decode cX8_feigned 120 = .ok (.bipush 100, 2) := by decide +kernel
theorem dX8_feigned_122 : decode cX8_feigned 122 = .ok (.idiv, 1) := by decide +kernel
theorem dX8_feigned_123 : decode cX8_feigned 123 = .ok (.ishr, 1) := by decide +kernel
theorem dX8_feigned_124 : decode cX8_feigned 124 = .ok (.iconst 1, 1) := by decide +kernel
theorem dX8_feigned_125 : decode cX8_feigned 125 = .ok (.iand, 1) := by decide +kernel
theorem dX8_feigned_126 : decode cX8_feigned 126 = .ok (.aload_n 0, 1) := by decide +kernel
theorem dX8_feigned_127 : decode cX8_feigned 127 = .ok (.getfield 28, 3) := by decide +kernel
theorem dX8_feigned_130 : decode cX8_feigned 130 = .ok (.iload 4, 2) := by decide +kernel
theorem dX8_feigned_132 : decode cX8_feigned 132 = .ok (.iaload, 1) := by decide +kernel
theorem dX8_feigned_133 : decode cX8_feigned 133 = .ok (.bipush 10, 2) := by decide +kernel
theorem dX8_feigned_135 : decode cX8_feigned 135 = .ok (.irem, 1) := by decide +kernel
theorem dX8_feigned_136 : decode cX8_feigned 136 = .ok (.if_icmp .ne 7, 3) := by decide +kernel
theorem dX8_feigned_139 : decode cX8_feigned 139 = .ok (.iconst 1, 1) := by decide +kernel
theorem dX8_feigned_140 : decode cX8_feigned 140 = .ok (.goto 4, 3) := by decide +kernel
theorem dX8_feigned_143 : decode cX8_feigned 143 = .ok (.iconst 0, 1) := by decide +kernel
theorem dX8_feigned_144 : decode cX8_feigned 144 = .ok (.istore_n 3, 1) := by decide +kernel
theorem dX8_feigned_145 : decode cX8_feigned 145 = .ok (.iinc 4 1, 3) := by decide +kernel
theorem dX8_feigned_148 : decode cX8_feigned 148 = .ok (.goto (-69), 3) := by decide +kernel
theorem dX8_feigned_151 : decode cX8_feigned 151 = .ok (.iload_n 1, 1) := by decide +kernel
theorem dX8_feigned_152 : decode cX8_feigned 152 = .ok (.iload_n 3, 1) := by decide +kernel
theorem dX8_feigned_153 : decode cX8_feigned 153 = .ok (.ifCond .eq 9, 3) := by decide +kernel
theorem dX8_feigned_156 : decode cX8_feigned 156 = .ok (.iconst 1, 1) := by decide +kernel
theorem dX8_feigned_157 : decode cX8_feigned 157 = .ok (.iload_n 2, 1) := by decide +kernel
theorem dX8_feigned_158 : decode cX8_feigned 158 = .ok (.ishl, 1) := by decide +kernel
theorem dX8_feigned_159 : decode cX8_feigned 159 = .ok (.goto 4, 3) := by decide +kernel
theorem dX8_feigned_162 : decode cX8_feigned 162 = .ok (.iconst 0, 1) := by decide +kernel
theorem dX8_feigned_163 : decode cX8_feigned 163 = .ok (.ior, 1) := by decide +kernel
theorem dX8_feigned_164 : decode cX8_feigned 164 = .ok (.istore_n 1, 1) := by decide +kernel
theorem dX8_feigned_165 : decode cX8_feigned 165 = .ok (.iinc 2 1, 3) := by decide +kernel
theorem dX8_feigned_168 : decode cX8_feigned 168 = .ok (.goto (-160), 3) := by decide +kernel
theorem dX8_feigned_171 : decode cX8_feigned 171 = .ok (.iload_n 1, 1) := by decide +kernel
theorem dX8_feigned_172 : decode cX8_feigned 172 = .ok (.ireturn, 1) := by decide +kernel
theorem dX8_hums_0 : decode cX8_hums 0 = .ok (.aload_n 0, 1) := by decide +kernel
theorem dX8_hums_1 : decode cX8_hums 1 = .ok (.iload_n 1, 1) := by decide +kernel
theorem dX8_hums_2 : decode cX8_hums 2 = .ok (.invokevirtual 118, 3) := by decide +kernel
theorem dX8_hums_5 : decode cX8_hums 5 = .ok (.ifCond .ne 5, 3) := by decide +kernel
theorem dX8_hums_8 : decode cX8_hums 8 = .ok (.iconst (-1), 1) := by decide +kernel
theorem dX8_hums_9 : decode cX8_hums 9 = .ok (.ireturn, 1) := by decide +kernel
theorem dX8_hums_10 : decode cX8_hums 10 = .ok (.aload_n 0, 1) := by decide +kernel
theorem dX8_hums_11 : decode cX8_hums 11 = .ok (.invokevirtual 121, 3) := by decide +kernel
theorem dX8_hums_14 : decode cX8_hums 14 = .ok (.iconst 0, 1) := by decide +kernel
theorem dX8_hums_15 : decode cX8_hums 15 = .ok (.istore_n 2, 1) := by decide +kernel
theorem dX8_hums_16 : decode cX8_hums 16 = .ok (.iconst 0, 1) := by decide +kernel
theorem dX8_hums_17 : decode cX8_hums 17 = .ok (.istore_n 3, 1) := by decide +kernel
theorem dX8_hums_18 : decode cX8_hums 18 = .ok (.iload_n 3, 1) := by decide +kernel
theorem dX8_hums_19 : decode cX8_hums 19 = .ok (.aload_n 0, 1) := by decide +kernel
theorem dX8_hums_20 : decode cX8_hums 20 = .ok (.getfield 13, 3) := by decide +kernel
theorem dX8_hums_23 : decode cX8_hums 23 = .ok (.iconst 0, 1) := by decide +kernel
theorem dX8_hums_24 : decode cX8_hums 24 = .ok (.iaload, 1) := by decide +kernel
theorem dX8_hums_25 : decode cX8_hums 25 = .ok (.if_icmp .ge 37, 3) := by decide +kernel
theorem dX8_hums_28 : decode cX8_hums 28 = .ok (.iload_n 2, 1) := by decide +kernel
theorem dX8_hums_29 : decode cX8_hums 29 = .ok (.aload_n 0, 1) := by decide +kernel
theorem dX8_hums_30 : decode cX8_hums 30 = .ok (.iload_n 1, 1) := by decide +kernel
theorem dX8_hums_31 : decode cX8_hums 31 = .ok (.iload_n 3, 1) := by decide +kernel
theorem dX8_hums_32 : decode cX8_hums 32 = .ok (.invokevirtual 105, 3) := by decide +kernel
theorem dX8_hums_35 : decode cX8_hums 35 = .ok (.ifCond .eq 18, 3) := by decide +kernel
theorem dX8_hums_38 : decode cX8_hums 38 = .ok (.aload_n 0, 1) := by decide +kernel
theorem dX8_hums_39 : decode cX8_hums 39 = .ok (.iload_n 1, 1) := by decide +kernel
theorem dX8_hums_40 : decode cX8_hums 40 = .ok (.iload_n 3, 1) := by decide +kernel
theorem dX8_hums_41 : decode cX8_hums 41 = .ok (.invokevirtual 112, 3) := by decide +kernel
theorem dX8_hums_44 : decode cX8_hums 44 = .ok (.ifCond .eq 9, 3) := by decide +kernel
theorem dX8_hums_47 : decode cX8_hums 47 = .ok (.iconst 1, 1) := by decide +kernel
theorem dX8_hums_48 : decode cX8_hums 48 = .ok (.iload_n 3, 1) := by decide +kernel
theorem dX8_hums_49 : decode cX8_hums 49 = .ok (.ishl, 1) := by decide +kernel
theorem dX8_hums_50 : decode cX8_hums 50 = .ok (.goto 4, 3) := by decide +kernel
theorem dX8_hums_53 : decode cX8_hums 53 = .ok (.iconst 0, 1) := by decide +kernel
theorem dX8_hums_54 : decode cX8_hums 54 = .ok (.ior, 1) := by decide +kernel
theorem dX8_hums_55 : decode cX8_hums 55 = .ok (.istore_n 2, 1) := by decide +kernel
theorem dX8_hums_56 : decode cX8_hums 56 = .ok (.iinc 3 1, 3) := by decide +kernel
theorem dX8_hums_59 : decode cX8_hums 59 = .ok (.goto (-41), 3) := by decide +kernel
theorem dX8_hums_62 : decode cX8_hums 62 = .ok (.iload_n 2, 1) := by decide +kernel
theorem dX8_hums_63 : decode cX8_hums 63 = .ok (.ireturn, 1) := by decide +kernel
theorem dX8_odds_0 : decode cX8_odds 0 = .ok (.aload_n 0, 1) := by decide +kernel
theorem dX8_odds_1 : decode cX8_odds 1 = .ok (.iload_n 1, 1) := by decide +kernel
theorem dX8_odds_2 : decode cX8_odds 2 = .ok (.invokevirtual 118, 3) := by decide +kernel
theorem dX8_odds_5 : decode cX8_odds 5 = .ok (.ifCond .eq 22, 3) := by decide +kernel
theorem dX8_odds_8 : decode cX8_odds 8 = .ok (.iload_n 2, 1) := by decide +kernel
theorem dX8_odds_9 : decode cX8_odds 9 = .ok (.iconst 0, 1) := by decide +kernel
theorem dX8_odds_10 : decode cX8_odds 10 = .ok (.bipush 10, 2) := by decide +kernel
theorem dX8_odds_12 : decode cX8_odds 12 = .ok (.invokestatic 53, 3) := by decide +kernel
theorem dX8_odds_15 : decode cX8_odds 15 = .ok (.ifCond .eq 12, 3) := by decide +kernel
theorem dX8_odds_18 : decode cX8_odds 18 = .ok (.iload_n 3, 1) := by decide +kernel
theorem dX8_odds_19 : decode cX8_odds 19 = .ok (.iconst 0, 1) := by decide +kernel
theorem dX8_odds_20 : decode cX8_odds 20 = .ok (.iconst 1, 1) := by decide +kernel
theorem dX8_odds_21 : decode cX8_odds 21 = .ok (.invokestatic 53, 3) := by decide +kernel
theorem dX8_odds_24 : decode cX8_odds 24 = .ok (.ifCond .ne 5, 3) := by decide +kernel
theorem dX8_odds_27 : decode cX8_odds 27 = .ok (.iconst (-1), 1) := by decide +kernel
theorem dX8_odds_28 : decode cX8_odds 28 = .ok (.ireturn, 1) := by decide +kernel
theorem dX8_odds_29 : decode cX8_odds 29 = .ok (.aload_n 0, 1) := by decide +kernel
theorem dX8_odds_30 : decode cX8_odds 30 = .ok (.invokevirtual 121, 3) := by decide +kernel
theorem dX8_odds_33 : decode cX8_odds 33 = .ok (.iconst 0, 1) := by decide +kernel
theorem dX8_odds_34 : decode cX8_odds 34 = .ok (.istore 4, 2) := by decide +kernel
theorem dX8_odds_36 : decode cX8_odds 36 = .ok (.iconst 1, 1) := by decide +kernel
theorem dX8_odds_37 : decode cX8_odds 37 = .ok (.istore 5, 2) := by decide +kernel
theorem dX8_odds_39 : decode cX8_odds 39 = .ok (.iconst 1, 1) := by decide +kernel
theorem dX8_odds_40 : decode cX8_odds 40 = .ok (.istore 6, 2) := by decide +kernel
theorem dX8_odds_42 : decode cX8_odds 42 = .ok (.iload 6, 2) := by decide +kernel
theorem dX8_odds_44 : decode cX8_odds 44 = .ok (.aload_n 0, 1) := by decide +kernel
theorem dX8_odds_45 : decode cX8_odds 45 = .ok (.getfield 13, 3) := by decide +kernel
theorem dX8_odds_48 : decode cX8_odds 48 = .ok (.iconst 0, 1) := by decide +kernel
theorem dX8_odds_49 : decode cX8_odds 49 = .ok (.iaload, 1) := by decide +kernel
theorem dX8_odds_50 : decode cX8_odds 50 = .ok (.if_icmp .ge 16, 3) := by decide +kernel
theorem dX8_odds_53 : decode cX8_odds 53 = .ok (.iload 5, 2) := by decide +kernel
theorem dX8_odds_55 : decode cX8_odds 55 = .ok (.bipush 10, 2) := by decide +kernel
theorem dX8_odds_57 : decode cX8_odds 57 = .ok (.imul, 1) := by decide +kernel
theorem dX8_odds_58 : decode cX8_odds 58 = .ok (.istore 5, 2) := by decide +kernel
theorem dX8_odds_60 : decode cX8_odds 60 = .ok (.iinc 6 1, 3) := by decide +kernel
theorem dX8_odds_63 : decode cX8_odds 63 = .ok (.goto (-21), 3) := by decide +kernel
theorem dX8_odds_66 : decode cX8_odds 66 = .ok (.iconst 0, 1) := by decide +kernel
theorem dX8_odds_67 : decode cX8_odds 67 = .ok (.istore 6, 2) := by decide +kernel
theorem dX8_odds_69 : decode cX8_odds 69 = .ok (.iload 6, 2) := by decide +kernel
theorem dX8_odds_71 : decode cX8_odds 71 = .ok (.iconst 1, 1) := by decide +kernel
theorem dX8_odds_72 : decode cX8_odds 72 = .ok (.aload_n 0, 1) := by decide +kernel
theorem dX8_odds_73 : decode cX8_odds 73 = .ok (.getfield 13, 3) := by decide +kernel
theorem dX8_odds_76 : decode cX8_odds 76 = .ok (.iconst 0, 1) := by decide +kernel
theorem dX8_odds_77 : decode cX8_odds 77 = .ok (.iaload, 1) := by decide +kernel
theorem dX8_odds_78 : decode cX8_odds 78 = .ok (.ishl, 1) := by decide +kernel
theorem dX8_odds_79 : decode cX8_odds 79 = .ok (.if_icmp .ge 109, 3) := by decide +kernel
theorem dX8_odds_82 : decode cX8_odds 82 = .ok (.iload 6, 2) := by decide +kernel
theorem dX8_odds_84 : decode cX8_odds 84 = .ok (.iload_n 1, 1) := by decide +kernel
theorem dX8_odds_85 : decode cX8_odds 85 = .ok (.ishr, 1) := by decide +kernel
theorem dX8_odds_86 : decode cX8_odds 86 = .ok (.iconst 1, 1) := by decide +kernel
theorem dX8_odds_87 : decode cX8_odds 87 = .ok (.iand, 1) := by decide +kernel
theorem dX8_odds_88 : decode cX8_odds 88 = .ok (.ifCond .ne 94, 3) := by decide +kernel
theorem dX8_odds_91 : decode cX8_odds 91 = .ok (.iconst 1, 1) := by decide +kernel
theorem dX8_odds_92 : decode cX8_odds 92 = .ok (.istore 7, 2) := by decide +kernel
theorem dX8_odds_94 : decode cX8_odds 94 = .ok (.iconst 0, 1) := by decide +kernel
theorem dX8_odds_95 : decode cX8_odds 95 = .ok (.istore 8, 2) := by decide +kernel
theorem dX8_odds_97 : decode cX8_odds 97 = .ok (.iload 8, 2) := by decide +kernel
theorem dX8_odds_99 : decode cX8_odds 99 = .ok (.aload_n 0, 1) := by decide +kernel
theorem dX8_odds_100 : decode cX8_odds 100 = .ok (.getfield 13, 3) := by decide +kernel
theorem dX8_odds_103 : decode cX8_odds 103 = .ok (.iconst 0, 1) := by decide +kernel
theorem dX8_odds_104 : decode cX8_odds 104 = .ok (.iaload, 1) := by decide +kernel
theorem dX8_odds_105 : decode cX8_odds 105 = .ok (.if_icmp .ge 43, 3) := by decide +kernel
theorem dX8_odds_108 : decode cX8_odds 108 = .ok (.iload 7, 2) := by decide +kernel
theorem dX8_odds_110 : decode cX8_odds 110 = .ok (.iload 8, 2) := by decide +kernel
theorem dX8_odds_112 : decode cX8_odds 112 = .ok (.iload_n 1, 1) := by decide +kernel
theorem dX8_odds_113 : decode cX8_odds 113 = .ok (.if_icmp .ne 7, 3) := by decide +kernel
theorem dX8_odds_116 : decode cX8_odds 116 = .ok (.iconst 1, 1) := by decide +kernel
theorem dX8_odds_117 : decode cX8_odds 117 = .ok (.goto 22, 3) := by decide +kernel
theorem dX8_odds_120 : decode cX8_odds 120 = .ok (.iload 6, 2) := by decide +kernel
theorem dX8_odds_122 : decode cX8_odds 122 = .ok (.iload 8, 2) := by decide +kernel
theorem dX8_odds_124 : decode cX8_odds 124 = .ok (.ishr, 1) := by decide +kernel
theorem dX8_odds_125 : decode cX8_odds 125 = .ok (.iconst 1, 1) := by decide +kernel
theorem dX8_odds_126 : decode cX8_odds 126 = .ok (.iand, 1) := by decide +kernel
theorem dX8_odds_127 : decode cX8_odds 127 = .ok (.iconst 1, 1) := by decide +kernel
theorem dX8_odds_128 : decode cX8_odds 128 = .ok (.if_icmp .ne 7, 3) := by decide +kernel
theorem dX8_odds_131 : decode cX8_odds 131 = .ok (.iload_n 2, 1) := by decide +kernel
theorem dX8_odds_132 : decode cX8_odds 132 = .ok (.goto 7, 3) := by decide +kernel
theorem dX8_odds_135 : decode cX8_odds 135 = .ok (.bipush 10, 2) := by decide +kernel
theorem dX8_odds_137 : decode cX8_odds 137 = .ok (.iload_n 2, 1) := by decide +kernel
theorem dX8_odds_138 : decode cX8_odds 138 = .ok (.isub, 1) := by decide +kernel
theorem dX8_odds_139 : decode cX8_odds 139 = .ok (.imul, 1) := by decide +kernel
theorem dX8_odds_140 : decode cX8_odds 140 = .ok (.istore 7, 2) := by decide +kernel
theorem dX8_odds_142 : decode cX8_odds 142 = .ok (.iinc 8 1, 3) := by decide +kernel
theorem dX8_odds_145 : decode cX8_odds 145 = .ok (.goto (-48), 3) := by decide +kernel
theorem dX8_odds_148 : decode cX8_odds 148 = .ok (.aload_n 0, 1) := by decide +kernel
theorem dX8_odds_149 : decode cX8_odds 149 = .ok (.iload 6, 2) := by decide +kernel
theorem dX8_odds_151 : decode cX8_odds 151 = .ok (.putfield 102, 3) := by decide +kernel
theorem dX8_odds_154 : decode cX8_odds 154 = .ok (.iload 4, 2) := by decide +kernel
theorem dX8_odds_156 : decode cX8_odds 156 = .ok (.aload_n 0, 1) := by decide +kernel
theorem dX8_odds_157 : decode cX8_odds 157 = .ok (.iload_n 1, 1) := by decide +kernel
theorem dX8_odds_158 : decode cX8_odds 158 = .ok (.invokevirtual 115, 3) := by decide +kernel
theorem dX8_odds_161 : decode cX8_odds 161 = .ok (.aload_n 0, 1) := by decide +kernel
theorem dX8_odds_162 : decode cX8_odds 162 = .ok (.getfield 13, 3) := by decide +kernel
theorem dX8_odds_165 : decode cX8_odds 165 = .ok (.bipush 21, 2) := by decide +kernel
theorem dX8_odds_167 : decode cX8_odds 167 = .ok (.iload_n 1, 1) := by decide +kernel
theorem dX8_odds_168 : decode cX8_odds 168 = .ok (.iadd, 1) := by decide +kernel
theorem dX8_odds_169 : decode cX8_odds 169 = .ok (.iaload, 1) := by decide +kernel
theorem dX8_odds_170 : decode cX8_odds 170 = .ok (.if_icmp .ge 8, 3) := by decide +kernel
theorem dX8_odds_173 : decode cX8_odds 173 = .ok (.iload 7, 2) := by decide +kernel
theorem dX8_odds_175 : decode cX8_odds 175 = .ok (.goto 4, 3) := by decide +kernel
theorem dX8_odds_178 : decode cX8_odds 178 = .ok (.iconst 0, 1) := by decide +kernel
theorem dX8_odds_179 : decode cX8_odds 179 = .ok (.iadd, 1) := by decide +kernel
theorem dX8_odds_180 : decode cX8_odds 180 = .ok (.istore 4, 2) := by decide +kernel
theorem dX8_odds_182 : decode cX8_odds 182 = .ok (.iinc 6 1, 3) := by decide +kernel
theorem dX8_odds_185 : decode cX8_odds 185 = .ok (.goto (-116), 3) := by decide +kernel
theorem dX8_odds_188 : decode cX8_odds 188 = .ok (.iload 4, 2) := by decide +kernel
theorem dX8_odds_190 : decode cX8_odds 190 = .ok (.istore 6, 2) := by decide +kernel
theorem dX8_odds_192 : decode cX8_odds 192 = .ok (.iload 5, 2) := by decide +kernel
theorem dX8_odds_194 : decode cX8_odds 194 = .ok (.istore 7, 2) := by decide +kernel
theorem dX8_odds_196 : decode cX8_odds 196 = .ok (.iload 7, 2) := by decide +kernel
theorem dX8_odds_198 : decode cX8_odds 198 = .ok (.ifCond .le 21, 3) := by decide +kernel
theorem dX8_odds_201 : decode cX8_odds 201 = .ok (.iload 6, 2) := by decide +kernel
theorem dX8_odds_203 : decode cX8_odds 203 = .ok (.iload 7, 2) := by decide +kernel
theorem dX8_odds_205 : decode cX8_odds 205 = .ok (.irem, 1) := by decide +kernel
theorem dX8_odds_206 : decode cX8_odds 206 = .ok (.istore 8, 2) := by decide +kernel
theorem dX8_odds_208 : decode cX8_odds 208 = .ok (.iload 7, 2) := by decide +kernel
theorem dX8_odds_210 : decode cX8_odds 210 = .ok (.istore 6, 2) := by decide +kernel
theorem dX8_odds_212 : decode cX8_odds 212 = .ok (.iload 8, 2) := by decide +kernel
theorem dX8_odds_214 : decode cX8_odds 214 = .ok (.istore 7, 2) := by decide +kernel
theorem dX8_odds_216 : decode cX8_odds 216 = .ok (.goto (-20), 3) := by decide +kernel
theorem dX8_odds_219 : decode cX8_odds 219 = .ok (.iload_n 3, 1) := by decide +kernel
theorem dX8_odds_220 : decode cX8_odds 220 = .ok (.ifCond .ne 11, 3) := by decide +kernel
theorem dX8_odds_223 : decode cX8_odds 223 = .ok (.iload 4, 2) := by decide +kernel
theorem dX8_odds_225 : decode cX8_odds 225 = .ok (.iload 6, 2) := by decide +kernel
theorem dX8_odds_227 : decode cX8_odds 227 = .ok (.idiv, 1) := by decide +kernel
theorem dX8_odds_228 : decode cX8_odds 228 = .ok (.goto 8, 3) := by decide +kernel
theorem dX8_odds_231 : decode cX8_odds 231 = .ok (.iload 5, 2) := by decide +kernel
theorem dX8_odds_233 : decode cX8_odds 233 = .ok (.iload 6, 2) := by decide +kernel
theorem dX8_odds_235 : decode cX8_odds 235 = .ok (.idiv, 1) := by decide +kernel
theorem dX8_odds_236 : decode cX8_odds 236 = .ok (.ireturn, 1) := by decide +kernel
theorem dX8_steps_0 : decode cX8_steps 0 = .ok (.iload_n 1, 1) := by decide +kernel
theorem dX8_steps_1 : decode cX8_steps 1 = .ok (.iconst 0, 1) := by decide +kernel
theorem dX8_steps_2 : decode cX8_steps 2 = .ok (.iconst 2, 1) := by decide +kernel
theorem dX8_steps_3 : decode cX8_steps 3 = .ok (.invokestatic 53, 3) := by decide +kernel
theorem dX8_steps_6 : decode cX8_steps 6 = .ok (.ifCond .eq 15, 3) := by decide +kernel
theorem dX8_steps_9 : decode cX8_steps 9 = .ok (.aload_n 0, 1) := by decide +kernel
theorem dX8_steps_10 : decode cX8_steps 10 = .ok (.getfield 19, 3) := by decide +kernel
theorem dX8_steps_13 : decode cX8_steps 13 = .ok (.bipush 7, 2) := by decide +kernel
theorem dX8_steps_15 : decode cX8_steps 15 = .ok (.iload_n 1, 1) := by decide +kernel
theorem dX8_steps_16 : decode cX8_steps 16 = .ok (.iadd, 1) := by decide +kernel
theorem dX8_steps_17 : decode cX8_steps 17 = .ok (.iaload, 1) := by decide +kernel
theorem dX8_steps_18 : decode cX8_steps 18 = .ok (.goto 4, 3) := by decide +kernel
theorem dX8_steps_21 : decode cX8_steps 21 = .ok (.iconst (-1), 1) := by decide +kernel
theorem dX8_steps_22 : decode cX8_steps 22 = .ok (.ireturn, 1) := by decide +kernel
theorem dX8_day_0 : decode cX8_day 0 = .ok (.iload_n 1, 1) := by decide +kernel
theorem dX8_day_1 : decode cX8_day 1 = .ok (.iconst 0, 1) := by decide +kernel
theorem dX8_day_2 : decode cX8_day 2 = .ok (.sipush 9999, 3) := by decide +kernel
theorem dX8_day_5 : decode cX8_day 5 = .ok (.invokestatic 53, 3) := by decide +kernel
theorem dX8_day_8 : decode cX8_day 8 = .ok (.ifCond .eq 22, 3) := by decide +kernel
theorem dX8_day_11 : decode cX8_day 11 = .ok (.iload_n 2, 1) := by decide +kernel
theorem dX8_day_12 : decode cX8_day 12 = .ok (.iconst 1, 1) := by decide +kernel
theorem dX8_day_13 : decode cX8_day 13 = .ok (.bipush 30, 2) := by decide +kernel
theorem dX8_day_15 : decode cX8_day 15 = .ok (.invokestatic 53, 3) := by decide +kernel
theorem dX8_day_18 : decode cX8_day 18 = .ok (.ifCond .eq 12, 3) := by decide +kernel
theorem dX8_day_21 : decode cX8_day 21 = .ok (.iload_n 3, 1) := by decide +kernel
theorem dX8_day_22 : decode cX8_day 22 = .ok (.iconst 0, 1) := by decide +kernel
theorem dX8_day_23 : decode cX8_day 23 = .ok (.iconst 1, 1) := by decide +kernel
theorem dX8_day_24 : decode cX8_day 24 = .ok (.invokestatic 53, 3) := by decide +kernel
theorem dX8_day_27 : decode cX8_day 27 = .ok (.ifCond .ne 5, 3) := by decide +kernel
theorem dX8_day_30 : decode cX8_day 30 = .ok (.iconst (-1), 1) := by decide +kernel
theorem dX8_day_31 : decode cX8_day 31 = .ok (.ireturn, 1) := by decide +kernel
theorem dX8_day_32 : decode cX8_day 32 = .ok (.iconst 0, 1) := by decide +kernel
theorem dX8_day_33 : decode cX8_day 33 = .ok (.istore 4, 2) := by decide +kernel
theorem dX8_day_35 : decode cX8_day 35 = .ok (.iload 4, 2) := by decide +kernel
theorem dX8_day_37 : decode cX8_day 37 = .ok (.bipush 10, 2) := by decide +kernel
theorem dX8_day_39 : decode cX8_day 39 = .ok (.if_icmp .ge 23, 3) := by decide +kernel
theorem dX8_day_42 : decode cX8_day 42 = .ok (.aload_n 0, 1) := by decide +kernel
theorem dX8_day_43 : decode cX8_day 43 = .ok (.getfield 40, 3) := by decide +kernel
theorem dX8_day_46 : decode cX8_day 46 = .ok (.iload 4, 2) := by decide +kernel
theorem dX8_day_48 : decode cX8_day 48 = .ok (.aload_n 0, 1) := by decide +kernel
theorem dX8_day_49 : decode cX8_day 49 = .ok (.getfield 19, 3) := by decide +kernel
theorem dX8_day_52 : decode cX8_day 52 = .ok (.iload 4, 2) := by decide +kernel
theorem dX8_day_54 : decode cX8_day 54 = .ok (.iaload, 1) := by decide +kernel
theorem dX8_day_55 : decode cX8_day 55 = .ok (.iastore, 1) := by decide +kernel
theorem dX8_day_56 : decode cX8_day 56 = .ok (.iinc 4 1, 3) := by decide +kernel
theorem dX8_day_59 : decode cX8_day 59 = .ok (.goto (-24), 3) := by decide +kernel
theorem dX8_day_62 : decode cX8_day 62 = .ok (.iconst 0, 1) := by decide +kernel
theorem dX8_day_63 : decode cX8_day 63 = .ok (.istore 4, 2) := by decide +kernel
theorem dX8_day_65 : decode cX8_day 65 = .ok (.iload 4, 2) := by decide +kernel
theorem dX8_day_67 : decode cX8_day 67 = .ok (.iload_n 2, 1) := by decide +kernel
theorem dX8_day_68 : decode cX8_day 68 = .ok (.if_icmp .ge 94, 3) := by decide +kernel
theorem dX8_day_71 : decode cX8_day 71 = .ok (.ldc2_w 173, 3) := by decide +kernel
theorem dX8_day_74 : decode cX8_day 74 = .ok (.iload_n 1, 1) := by decide +kernel
theorem dX8_day_75 : decode cX8_day 75 = .ok (.i2l, 1) := by decide +kernel
theorem dX8_day_76 : decode cX8_day 76 = .ok (.lmul, 1) := by decide +kernel
theorem dX8_day_77 : decode cX8_day 77 = .ok (.ldc2_w 175, 3) := by decide +kernel
theorem dX8_day_80 : decode cX8_day 80 = .ok (.iload 4, 2) := by decide +kernel
theorem dX8_day_82 : decode cX8_day 82 = .ok (.i2l, 1) := by decide +kernel
theorem dX8_day_83 : decode cX8_day 83 = .ok (.lmul, 1) := by decide +kernel
theorem dX8_day_84 : decode cX8_day 84 = .ok (.ladd, 1) := by decide +kernel
theorem dX8_day_85 : decode cX8_day 85 = .ok (.lconst 1, 1) := by decide +kernel
theorem dX8_day_86 : decode cX8_day 86 = .ok (.ladd, 1) := by decide +kernel
theorem dX8_day_87 : decode cX8_day 87 = .ok (.lstore 5, 2) := by decide +kernel
theorem dX8_day_89 : decode cX8_day 89 = .ok (.lload 5, 2) := by decide +kernel
theorem dX8_day_91 : decode cX8_day 91 = .ok (.lload 5, 2) := by decide +kernel
theorem dX8_day_93 : decode cX8_day 93 = .ok (.lmul, 1) := by decide +kernel
theorem dX8_day_94 : decode cX8_day 94 = .ok (.ldc2_w 177, 3) := by decide +kernel
theorem dX8_day_97 : decode cX8_day 97 = .ok (.lrem, 1) := by decide +kernel
theorem dX8_day_98 : decode cX8_day 98 = .ok (.l2i, 1) := by decide +kernel
theorem dX8_day_99 : decode cX8_day 99 = .ok (.iconst 4, 1) := by decide +kernel
theorem dX8_day_100 : decode cX8_day 100 = .ok (.idiv, 1) := by decide +kernel
theorem dX8_day_101 : decode cX8_day 101 = .ok (.istore 7, 2) := by decide +kernel
theorem dX8_day_103 : decode cX8_day 103 = .ok (.iload 7, 2) := by decide +kernel
theorem dX8_day_105 : decode cX8_day 105 = .ok (.bipush 8, 2) := by decide +kernel
theorem dX8_day_107 : decode cX8_day 107 = .ok (.idiv, 1) := by decide +kernel
theorem dX8_day_108 : decode cX8_day 108 = .ok (.aload_n 0, 1) := by decide +kernel
theorem dX8_day_109 : decode cX8_day 109 = .ok (.getfield 13, 3) := by decide +kernel
theorem dX8_day_112 : decode cX8_day 112 = .ok (.iconst 1, 1) := by decide +kernel
theorem dX8_day_113 : decode cX8_day 113 = .ok (.iaload, 1) := by decide +kernel
theorem dX8_day_114 : decode cX8_day 114 = .ok (.irem, 1) := by decide +kernel
theorem dX8_day_115 : decode cX8_day 115 = .ok (.istore 8, 2) := by decide +kernel
theorem dX8_day_117 : decode cX8_day 117 = .ok (.aload_n 0, 1) := by decide +kernel
theorem dX8_day_118 : decode cX8_day 118 = .ok (.iload 8, 2) := by decide +kernel
theorem dX8_day_120 : decode cX8_day 120 = .ok (.invokevirtual 130, 3) := by decide +kernel
theorem dX8_day_123 : decode cX8_day 123 = .ok (.bipush (-4), 2) := by decide +kernel
theorem dX8_day_125 : decode cX8_day 125 = .ok (.if_icmp .ne 19, 3) := by decide +kernel
theorem dX8_day_128 : decode cX8_day 128 = .ok (.aload_n 0, 1) := by decide +kernel
theorem dX8_day_129 : decode cX8_day 129 = .ok (.iload 7, 2) := by decide +kernel
theorem dX8_day_131 : decode cX8_day 131 = .ok (.aload_n 0, 1) := by decide +kernel
theorem dX8_day_132 : decode cX8_day 132 = .ok (.getfield 13, 3) := by decide +kernel
theorem dX8_day_135 : decode cX8_day 135 = .ok (.iconst 0, 1) := by decide +kernel
theorem dX8_day_136 : decode cX8_day 136 = .ok (.iaload, 1) := by decide +kernel
theorem dX8_day_137 : decode cX8_day 137 = .ok (.irem, 1) := by decide +kernel
theorem dX8_day_138 : decode cX8_day 138 = .ok (.iload 8, 2) := by decide +kernel
theorem dX8_day_140 : decode cX8_day 140 = .ok (.invokevirtual 146, 3) := by decide +kernel
theorem dX8_day_143 : decode cX8_day 143 = .ok (.pop, 1) := by decide +kernel
theorem dX8_day_144 : decode cX8_day 144 = .ok (.iload 4, 2) := by decide +kernel
theorem dX8_day_146 : decode cX8_day 146 = .ok (.iconst 4, 1) := by decide +kernel
theorem dX8_day_147 : decode cX8_day 147 = .ok (.irem, 1) := by decide +kernel
theorem dX8_day_148 : decode cX8_day 148 = .ok (.iconst 3, 1) := by decide +kernel
theorem dX8_day_149 : decode cX8_day 149 = .ok (.if_icmp .ne 7, 3) := by decide +kernel
theorem dX8_day_152 : decode cX8_day 152 = .ok (.aload_n 0, 1) := by decide +kernel
theorem dX8_day_153 : decode cX8_day 153 = .ok (.invokevirtual 149, 3) := by decide +kernel
theorem dX8_day_156 : decode cX8_day 156 = .ok (.iinc 4 1, 3) := by decide +kernel
theorem dX8_day_159 : decode cX8_day 159 = .ok (.goto (-94), 3) := by decide +kernel
theorem dX8_day_162 : decode cX8_day 162 = .ok (.aload_n 0, 1) := by decide +kernel
theorem dX8_day_163 : decode cX8_day 163 = .ok (.invokevirtual 121, 3) := by decide +kernel
theorem dX8_day_166 : decode cX8_day 166 = .ok (.iload_n 3, 1) := by decide +kernel
theorem dX8_day_167 : decode cX8_day 167 = .ok (.ifCond .ne 21, 3) := by decide +kernel
theorem dX8_day_170 : decode cX8_day 170 = .ok (.aload_n 0, 1) := by decide +kernel
theorem dX8_day_171 : decode cX8_day 171 = .ok (.getfield 19, 3) := by decide +kernel
theorem dX8_day_174 : decode cX8_day 174 = .ok (.bipush 9, 2) := by decide +kernel
theorem dX8_day_176 : decode cX8_day 176 = .ok (.iaload, 1) := by decide +kernel
theorem dX8_day_177 : decode cX8_day 177 = .ok (.aload_n 0, 1) := by decide +kernel
theorem dX8_day_178 : decode cX8_day 178 = .ok (.getfield 40, 3) := by decide +kernel
theorem dX8_day_181 : decode cX8_day 181 = .ok (.bipush 9, 2) := by decide +kernel
theorem dX8_day_183 : decode cX8_day 183 = .ok (.iaload, 1) := by decide +kernel
theorem dX8_day_184 : decode cX8_day 184 = .ok (.isub, 1) := by decide +kernel
theorem dX8_day_185 : decode cX8_day 185 = .ok (.goto 10, 3) := by decide +kernel
theorem dX8_day_188 : decode cX8_day 188 = .ok (.aload_n 0, 1) := by decide +kernel
theorem dX8_day_189 : decode cX8_day 189 = .ok (.invokevirtual 124, 3) := by decide +kernel
theorem dX8_day_192 : decode cX8_day 192 = .ok (.invokestatic 140, 3) := by decide +kernel
theorem dX8_day_195 : decode cX8_day 195 = .ok (.istore 4, 2) := by decide +kernel
theorem dX8_day_197 : decode cX8_day 197 = .ok (.iconst 0, 1) := by decide +kernel
theorem dX8_day_198 : decode cX8_day 198 = .ok (.istore 5, 2) := by decide +kernel
theorem dX8_day_200 : decode cX8_day 200 = .ok (.iload 5, 2) := by decide +kernel
theorem dX8_day_202 : decode cX8_day 202 = .ok (.bipush 10, 2) := by decide +kernel
theorem dX8_day_204 : decode cX8_day 204 = .ok (.if_icmp .ge 23, 3) := by decide +kernel
theorem dX8_day_207 : decode cX8_day 207 = .ok (.aload_n 0, 1) := by decide +kernel
theorem dX8_day_208 : decode cX8_day 208 = .ok (.getfield 19, 3) := by decide +kernel
theorem dX8_day_211 : decode cX8_day 211 = .ok (.iload 5, 2) := by decide +kernel
theorem dX8_day_213 : decode cX8_day 213 = .ok (.aload_n 0, 1) := by decide +kernel
theorem dX8_day_214 : decode cX8_day 214 = .ok (.getfield 40, 3) := by decide +kernel
theorem dX8_day_217 : decode cX8_day 217 = .ok (.iload 5, 2) := by decide +kernel
theorem dX8_day_219 : decode cX8_day 219 = .ok (.iaload, 1) := by decide +kernel
theorem dX8_day_220 : decode cX8_day 220 = .ok (.iastore, 1) := by decide +kernel
theorem dX8_day_221 : decode cX8_day 221 = .ok (.iinc 5 1, 3) := by decide +kernel
theorem dX8_day_224 : decode cX8_day 224 = .ok (.goto (-24), 3) := by decide +kernel
theorem dX8_day_227 : decode cX8_day 227 = .ok (.iload 4, 2) := by decide +kernel
theorem dX8_day_229 : decode cX8_day 229 = .ok (.ireturn, 1) := by decide +kernel
theorem dX8_keep_0 : decode cX8_keep 0 = .ok (.aload_n 0, 1) := by decide +kernel
theorem dX8_keep_1 : decode cX8_keep 1 = .ok (.getfield 90, 3) := by decide +kernel
theorem dX8_keep_4 : decode cX8_keep 4 = .ok (.iconst 2, 1) := by decide +kernel
theorem dX8_keep_5 : decode cX8_keep 5 = .ok (.if_icmp .ne 6, 3) := by decide +kernel
theorem dX8_keep_8 : decode cX8_keep 8 = .ok (.bipush (-3), 2) := by decide +kernel
theorem dX8_keep_10 : decode cX8_keep 10 = .ok (.ireturn, 1) := by decide +kernel
theorem dX8_keep_11 : decode cX8_keep 11 = .ok (.iconst 0, 1) := by decide +kernel
theorem dX8_keep_12 : decode cX8_keep 12 = .ok (.istore_n 1, 1) := by decide +kernel
theorem dX8_keep_13 : decode cX8_keep 13 = .ok (.iload_n 1, 1) := by decide +kernel
theorem dX8_keep_14 : decode cX8_keep 14 = .ok (.bipush 10, 2) := by decide +kernel
theorem dX8_keep_16 : decode cX8_keep 16 = .ok (.if_icmp .ge 29, 3) := by decide +kernel
theorem dX8_keep_19 : decode cX8_keep 19 = .ok (.aload_n 0, 1) := by decide +kernel
theorem dX8_keep_20 : decode cX8_keep 20 = .ok (.getfield 25, 3) := by decide +kernel
theorem dX8_keep_23 : decode cX8_keep 23 = .ok (.bipush 10, 2) := by decide +kernel
theorem dX8_keep_25 : decode cX8_keep 25 = .ok (.aload_n 0, 1) := by decide +kernel
theorem dX8_keep_26 : decode cX8_keep 26 = .ok (.getfield 90, 3) := by decide +kernel
theorem dX8_keep_29 : decode cX8_keep 29 = .ok (.imul, 1) := by decide +kernel
theorem dX8_keep_30 : decode cX8_keep 30 = .ok (.iload_n 1, 1) := by decide +kernel
theorem dX8_keep_31 : decode cX8_keep 31 = .ok (.iadd, 1) := by decide +kernel
theorem dX8_keep_32 : decode cX8_keep 32 = .ok (.aload_n 0, 1) := by decide +kernel
theorem dX8_keep_33 : decode cX8_keep 33 = .ok (.getfield 19, 3) := by decide +kernel
theorem dX8_keep_36 : decode cX8_keep 36 = .ok (.iload_n 1, 1) := by decide +kernel
theorem dX8_keep_37 : decode cX8_keep 37 = .ok (.iaload, 1) := by decide +kernel
theorem dX8_keep_38 : decode cX8_keep 38 = .ok (.iastore, 1) := by decide +kernel
theorem dX8_keep_39 : decode cX8_keep 39 = .ok (.iinc 1 1, 3) := by decide +kernel
theorem dX8_keep_42 : decode cX8_keep 42 = .ok (.goto (-29), 3) := by decide +kernel
theorem dX8_keep_45 : decode cX8_keep 45 = .ok (.aload_n 0, 1) := by decide +kernel
theorem dX8_keep_46 : decode cX8_keep 46 = .ok (.dup, 1) := by decide +kernel
theorem dX8_keep_47 : decode cX8_keep 47 = .ok (.getfield 90, 3) := by decide +kernel
theorem dX8_keep_50 : decode cX8_keep 50 = .ok (.iconst 1, 1) := by decide +kernel
theorem dX8_keep_51 : decode cX8_keep 51 = .ok (.iadd, 1) := by decide +kernel
theorem dX8_keep_52 : decode cX8_keep 52 = .ok (.putfield 90, 3) := by decide +kernel
theorem dX8_keep_55 : decode cX8_keep 55 = .ok (.aload_n 0, 1) := by decide +kernel
theorem dX8_keep_56 : decode cX8_keep 56 = .ok (.getfield 90, 3) := by decide +kernel
theorem dX8_keep_59 : decode cX8_keep 59 = .ok (.ireturn, 1) := by decide +kernel
theorem dX8_back_0 : decode cX8_back 0 = .ok (.aload_n 0, 1) := by decide +kernel
theorem dX8_back_1 : decode cX8_back 1 = .ok (.getfield 90, 3) := by decide +kernel
theorem dX8_back_4 : decode cX8_back 4 = .ok (.ifCond .ne 6, 3) := by decide +kernel
theorem dX8_back_7 : decode cX8_back 7 = .ok (.bipush (-2), 2) := by decide +kernel
theorem dX8_back_9 : decode cX8_back 9 = .ok (.ireturn, 1) := by decide +kernel
theorem dX8_back_10 : decode cX8_back 10 = .ok (.aload_n 0, 1) := by decide +kernel
theorem dX8_back_11 : decode cX8_back 11 = .ok (.dup, 1) := by decide +kernel
theorem dX8_back_12 : decode cX8_back 12 = .ok (.getfield 90, 3) := by decide +kernel
theorem dX8_back_15 : decode cX8_back 15 = .ok (.iconst 1, 1) := by decide +kernel
theorem dX8_back_16 : decode cX8_back 16 = .ok (.isub, 1) := by decide +kernel
theorem dX8_back_17 : decode cX8_back 17 = .ok (.putfield 90, 3) := by decide +kernel
theorem dX8_back_20 : decode cX8_back 20 = .ok (.iconst 0, 1) := by decide +kernel
theorem dX8_back_21 : decode cX8_back 21 = .ok (.istore_n 1, 1) := by decide +kernel
theorem dX8_back_22 : decode cX8_back 22 = .ok (.iload_n 1, 1) := by decide +kernel
theorem dX8_back_23 : decode cX8_back 23 = .ok (.bipush 10, 2) := by decide +kernel
theorem dX8_back_25 : decode cX8_back 25 = .ok (.if_icmp .ge 29, 3) := by decide +kernel
theorem dX8_back_28 : decode cX8_back 28 = .ok (.aload_n 0, 1) := by decide +kernel
theorem dX8_back_29 : decode cX8_back 29 = .ok (.getfield 19, 3) := by decide +kernel
theorem dX8_back_32 : decode cX8_back 32 = .ok (.iload_n 1, 1) := by decide +kernel
theorem dX8_back_33 : decode cX8_back 33 = .ok (.aload_n 0, 1) := by decide +kernel
theorem dX8_back_34 : decode cX8_back 34 = .ok (.getfield 25, 3) := by decide +kernel
theorem dX8_back_37 : decode cX8_back 37 = .ok (.bipush 10, 2) := by decide +kernel
theorem dX8_back_39 : decode cX8_back 39 = .ok (.aload_n 0, 1) := by decide +kernel
theorem dX8_back_40 : decode cX8_back 40 = .ok (.getfield 90, 3) := by decide +kernel
theorem dX8_back_43 : decode cX8_back 43 = .ok (.imul, 1) := by decide +kernel
theorem dX8_back_44 : decode cX8_back 44 = .ok (.iload_n 1, 1) := by decide +kernel
theorem dX8_back_45 : decode cX8_back 45 = .ok (.iadd, 1) := by decide +kernel
theorem dX8_back_46 : decode cX8_back 46 = .ok (.iaload, 1) := by decide +kernel
theorem dX8_back_47 : decode cX8_back 47 = .ok (.iastore, 1) := by decide +kernel
theorem dX8_back_48 : decode cX8_back 48 = .ok (.iinc 1 1, 3) := by decide +kernel
theorem dX8_back_51 : decode cX8_back 51 = .ok (.goto (-29), 3) := by decide +kernel
theorem dX8_back_54 : decode cX8_back 54 = .ok (.aload_n 0, 1) := by decide +kernel
theorem dX8_back_55 : decode cX8_back 55 = .ok (.iconst 0, 1) := by decide +kernel
theorem dX8_back_56 : decode cX8_back 56 = .ok (.putfield 87, 3) := by decide +kernel
theorem dX8_back_59 : decode cX8_back 59 = .ok (.aload_n 0, 1) := by decide +kernel
theorem dX8_back_60 : decode cX8_back 60 = .ok (.getfield 90, 3) := by decide +kernel
theorem dX8_back_63 : decode cX8_back 63 = .ok (.ireturn, 1) := by decide +kernel
theorem dX8_count_0 : decode cX8_count 0 = .ok (.iload_n 1, 1) := by decide +kernel
theorem dX8_count_1 : decode cX8_count 1 = .ok (.tableswitch 99 0 7 #[47, 54, 61, 69, 79, 84, 89, 94], 47) := by decide +kernel
theorem dX8_count_48 : decode cX8_count 48 = .ok (.aload_n 0, 1) := by decide +kernel
theorem dX8_count_49 : decode cX8_count 49 = .ok (.getfield 13, 3) := by decide +kernel
theorem dX8_count_52 : decode cX8_count 52 = .ok (.iconst 0, 1) := by decide +kernel
theorem dX8_count_53 : decode cX8_count 53 = .ok (.iaload, 1) := by decide +kernel
theorem dX8_count_54 : decode cX8_count 54 = .ok (.ireturn, 1) := by decide +kernel
theorem dX8_count_55 : decode cX8_count 55 = .ok (.aload_n 0, 1) := by decide +kernel
theorem dX8_count_56 : decode cX8_count 56 = .ok (.getfield 13, 3) := by decide +kernel
theorem dX8_count_59 : decode cX8_count 59 = .ok (.iconst 1, 1) := by decide +kernel
theorem dX8_count_60 : decode cX8_count 60 = .ok (.iaload, 1) := by decide +kernel
theorem dX8_count_61 : decode cX8_count 61 = .ok (.ireturn, 1) := by decide +kernel
theorem dX8_count_62 : decode cX8_count 62 = .ok (.aload_n 0, 1) := by decide +kernel
theorem dX8_count_63 : decode cX8_count 63 = .ok (.getfield 19, 3) := by decide +kernel
theorem dX8_count_66 : decode cX8_count 66 = .ok (.bipush 6, 2) := by decide +kernel
theorem dX8_count_68 : decode cX8_count 68 = .ok (.iaload, 1) := by decide +kernel
theorem dX8_count_69 : decode cX8_count 69 = .ok (.ireturn, 1) := by decide +kernel
theorem dX8_count_70 : decode cX8_count 70 = .ok (.aload_n 0, 1) := by decide +kernel
theorem dX8_count_71 : decode cX8_count 71 = .ok (.getfield 19, 3) := by decide +kernel
theorem dX8_count_74 : decode cX8_count 74 = .ok (.iconst 5, 1) := by decide +kernel
theorem dX8_count_75 : decode cX8_count 75 = .ok (.iaload, 1) := by decide +kernel
theorem dX8_count_76 : decode cX8_count 76 = .ok (.invokestatic 140, 3) := by decide +kernel
theorem dX8_count_79 : decode cX8_count 79 = .ok (.ireturn, 1) := by decide +kernel
theorem dX8_count_80 : decode cX8_count 80 = .ok (.aload_n 0, 1) := by decide +kernel
theorem dX8_count_81 : decode cX8_count 81 = .ok (.getfield 93, 3) := by decide +kernel
theorem dX8_count_84 : decode cX8_count 84 = .ok (.ireturn, 1) := by decide +kernel
theorem dX8_count_85 : decode cX8_count 85 = .ok (.aload_n 0, 1) := by decide +kernel
theorem dX8_count_86 : decode cX8_count 86 = .ok (.getfield 87, 3) := by decide +kernel
theorem dX8_count_89 : decode cX8_count 89 = .ok (.ireturn, 1) := by decide +kernel
theorem dX8_count_90 : decode cX8_count 90 = .ok (.aload_n 0, 1) := by decide +kernel
theorem dX8_count_91 : decode cX8_count 91 = .ok (.getfield 90, 3) := by decide +kernel
theorem dX8_count_94 : decode cX8_count 94 = .ok (.ireturn, 1) := by decide +kernel
theorem dX8_count_95 : decode cX8_count 95 = .ok (.aload_n 0, 1) := by decide +kernel
theorem dX8_count_96 : decode cX8_count 96 = .ok (.getfield 57, 3) := by decide +kernel
theorem dX8_count_99 : decode cX8_count 99 = .ok (.ireturn, 1) := by decide +kernel
theorem dX8_count_100 : decode cX8_count 100 = .ok (.iconst (-1), 1) := by decide +kernel
theorem dX8_count_101 : decode cX8_count 101 = .ok (.ireturn, 1) := by decide +kernel
