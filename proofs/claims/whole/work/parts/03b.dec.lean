theorem dX2_init_0 : decode cX2_init 0 = .ok (.aload_n 0, 1) := by decide +kernel
theorem dX2_init_1 : decode cX2_init 1 = .ok (.invokespecial 3, 3) := by decide +kernel
theorem dX2_init_4 : decode cX2_init 4 = .ok (.aload_n 0, 1) := by decide +kernel
theorem dX2_init_5 : decode cX2_init 5 = .ok (.bipush 8, 2) := by decide +kernel
theorem dX2_init_7 : decode cX2_init 7 = .ok (.newarray .int, 2) := by decide +kernel
theorem dX2_init_9 : decode cX2_init 9 = .ok (.putfield 9, 3) := by decide +kernel
theorem dX2_init_12 : decode cX2_init 12 = .ok (.aload_n 0, 1) := by decide +kernel
theorem dX2_init_13 : decode cX2_init 13 = .ok (.bipush 8, 2) := by decide +kernel
theorem dX2_init_15 : decode cX2_init 15 = .ok (.newarray .int, 2) := by decide +kernel
theorem dX2_init_17 : decode cX2_init 17 = .ok (.putfield 15, 3) := by decide +kernel
theorem dX2_init_20 : decode cX2_init 20 = .ok (.aload_n 0, 1) := by decide +kernel
theorem dX2_init_21 : decode cX2_init 21 = .ok (.bipush 8, 2) := by decide +kernel
theorem dX2_init_23 : decode cX2_init 23 = .ok (.newarray .boolean, 2) := by decide +kernel
theorem dX2_init_25 : decode cX2_init 25 = .ok (.putfield 18, 3) := by decide +kernel
theorem dX2_init_28 : decode cX2_init 28 = .ok (.return_, 1) := by decide +kernel
theorem dX2_size_0 : decode cX2_size 0 = .ok (.aload_n 0, 1) := by decide +kernel
theorem dX2_size_1 : decode cX2_size 1 = .ok (.getfield 22, 3) := by decide +kernel
theorem dX2_size_4 : decode cX2_size 4 = .ok (.ireturn, 1) := by decide +kernel
theorem dX2_clear_0 : decode cX2_clear 0 = .ok (.aload_n 0, 1) := by decide +kernel
theorem dX2_clear_1 : decode cX2_clear 1 = .ok (.iconst 0, 1) := by decide +kernel
theorem dX2_clear_2 : decode cX2_clear 2 = .ok (.putfield 22, 3) := by decide +kernel
theorem dX2_clear_5 : decode cX2_clear 5 = .ok (.return_, 1) := by decide +kernel
theorem dX2_add_0 : decode cX2_add 0 = .ok (.aload_n 0, 1) := by decide +kernel
theorem dX2_add_1 : decode cX2_add 1 = .ok (.getfield 22, 3) := by decide +kernel
theorem dX2_add_4 : decode cX2_add 4 = .ok (.bipush 8, 2) := by decide +kernel
theorem dX2_add_6 : decode cX2_add 6 = .ok (.if_icmp .lt 5, 3) := by decide +kernel
theorem dX2_add_9 : decode cX2_add 9 = .ok (.iconst 0, 1) := by decide +kernel
theorem dX2_add_10 : decode cX2_add 10 = .ok (.ireturn, 1) := by decide +kernel
theorem dX2_add_11 : decode cX2_add 11 = .ok (.aload_n 0, 1) := by decide +kernel
theorem dX2_add_12 : decode cX2_add 12 = .ok (.getfield 9, 3) := by decide +kernel
theorem dX2_add_15 : decode cX2_add 15 = .ok (.aload_n 0, 1) := by decide +kernel
theorem dX2_add_16 : decode cX2_add 16 = .ok (.getfield 22, 3) := by decide +kernel
theorem dX2_add_19 : decode cX2_add 19 = .ok (.iload_n 1, 1) := by decide +kernel
theorem dX2_add_20 : decode cX2_add 20 = .ok (.iastore, 1) := by decide +kernel
theorem dX2_add_21 : decode cX2_add 21 = .ok (.aload_n 0, 1) := by decide +kernel
theorem dX2_add_22 : decode cX2_add 22 = .ok (.getfield 15, 3) := by decide +kernel
theorem dX2_add_25 : decode cX2_add 25 = .ok (.aload_n 0, 1) := by decide +kernel
theorem dX2_add_26 : decode cX2_add 26 = .ok (.getfield 22, 3) := by decide +kernel
theorem dX2_add_29 : decode cX2_add 29 = .ok (.iload_n 2, 1) := by decide +kernel
theorem dX2_add_30 : decode cX2_add 30 = .ok (.iastore, 1) := by decide +kernel
theorem dX2_add_31 : decode cX2_add 31 = .ok (.aload_n 0, 1) := by decide +kernel
theorem dX2_add_32 : decode cX2_add 32 = .ok (.getfield 18, 3) := by decide +kernel
theorem dX2_add_35 : decode cX2_add 35 = .ok (.aload_n 0, 1) := by decide +kernel
theorem dX2_add_36 : decode cX2_add 36 = .ok (.getfield 22, 3) := by decide +kernel
theorem dX2_add_39 : decode cX2_add 39 = .ok (.iload_n 3, 1) := by decide +kernel
theorem dX2_add_40 : decode cX2_add 40 = .ok (.bastore, 1) := by decide +kernel
theorem dX2_add_41 : decode cX2_add 41 = .ok (.aload_n 0, 1) := by decide +kernel
theorem dX2_add_42 : decode cX2_add 42 = .ok (.dup, 1) := by decide +kernel
theorem dX2_add_43 : decode cX2_add 43 = .ok (.getfield 22, 3) := by decide +kernel
theorem dX2_add_46 : decode cX2_add 46 = .ok (.iconst 1, 1) := by decide +kernel
theorem dX2_add_47 : decode cX2_add 47 = .ok (.iadd, 1) := by decide +kernel
theorem dX2_add_48 : decode cX2_add 48 = .ok (.putfield 22, 3) := by decide +kernel
theorem dX2_add_51 : decode cX2_add 51 = .ok (.iconst 1, 1) := by decide +kernel
theorem dX2_add_52 : decode cX2_add 52 = .ok (.ireturn, 1) := by decide +kernel
theorem dX2_allHold_0 : decode cX2_allHold 0 = .ok (.iconst 0, 1) := by decide +kernel
theorem dX2_allHold_1 : decode cX2_allHold 1 = .ok (.istore_n 3, 1) := by decide +kernel
theorem dX2_allHold_2 : decode cX2_allHold 2 = .ok (.iload_n 3, 1) := by decide +kernel
theorem dX2_allHold_3 : decode cX2_allHold 3 = .ok (.aload_n 0, 1) := by decide +kernel
theorem dX2_allHold_4 : decode cX2_allHold 4 = .ok (.getfield 22, 3) := by decide +kernel
theorem dX2_allHold_7 : decode cX2_allHold 7 = .ok (.if_icmp .ge 43, 3) := by decide +kernel
theorem dX2_allHold_10 : decode cX2_allHold 10 = .ok (.iload_n 3, 1) := by decide +kernel
theorem dX2_allHold_11 : decode cX2_allHold 11 = .ok (.bipush 8, 2) := by decide +kernel
theorem dX2_allHold_13 : decode cX2_allHold 13 = .ok (.if_icmp .ge 37, 3) := by decide +kernel
theorem dX2_allHold_16 : decode cX2_allHold 16 = .ok (.aload_n 1, 1) := by decide +kernel
theorem dX2_allHold_17 : decode cX2_allHold 17 = .ok (.aload_n 0, 1) := by decide +kernel
theorem dX2_allHold_18 : decode cX2_allHold 18 = .ok (.getfield 9, 3) := by decide +kernel
theorem dX2_allHold_21 : decode cX2_allHold 21 = .ok (.iload_n 3, 1) := by decide +kernel
theorem dX2_allHold_22 : decode cX2_allHold 22 = .ok (.iaload, 1) := by decide +kernel
theorem dX2_allHold_23 : decode cX2_allHold 23 = .ok (.aload_n 2, 1) := by decide +kernel
theorem dX2_allHold_24 : decode cX2_allHold 24 = .ok (.aload_n 0, 1) := by decide +kernel
theorem dX2_allHold_25 : decode cX2_allHold 25 = .ok (.getfield 15, 3) := by decide +kernel
theorem dX2_allHold_28 : decode cX2_allHold 28 = .ok (.iload_n 3, 1) := by decide +kernel
theorem dX2_allHold_29 : decode cX2_allHold 29 = .ok (.iaload, 1) := by decide +kernel
theorem dX2_allHold_30 : decode cX2_allHold 30 = .ok (.invokevirtual 26, 3) := by decide +kernel
theorem dX2_allHold_33 : decode cX2_allHold 33 = .ok (.aload_n 0, 1) := by decide +kernel
theorem dX2_allHold_34 : decode cX2_allHold 34 = .ok (.getfield 18, 3) := by decide +kernel
theorem dX2_allHold_37 : decode cX2_allHold 37 = .ok (.iload_n 3, 1) := by decide +kernel
theorem dX2_allHold_38 : decode cX2_allHold 38 = .ok (.baload, 1) := by decide +kernel
theorem dX2_allHold_39 : decode cX2_allHold 39 = .ok (.if_icmp .eq 5, 3) := by decide +kernel
theorem dX2_allHold_42 : decode cX2_allHold 42 = .ok (.iconst 0, 1) := by decide +kernel
theorem dX2_allHold_43 : decode cX2_allHold 43 = .ok (.ireturn, 1) := by decide +kernel
theorem dX2_allHold_44 : decode cX2_allHold 44 = .ok (.iinc 3 1, 3) := by decide +kernel
theorem dX2_allHold_47 : decode cX2_allHold 47 = .ok (.goto (-45), 3) := by decide +kernel
theorem dX2_allHold_50 : decode cX2_allHold 50 = .ok (.iconst 1, 1) := by decide +kernel
theorem dX2_allHold_51 : decode cX2_allHold 51 = .ok (.ireturn, 1) := by decide +kernel
theorem dX3_init_0 : decode cX3_init 0 = .ok (.aload_n 0, 1) := by decide +kernel
theorem dX3_init_1 : decode cX3_init 1 = .ok (.invokespecial 3, 3) := by decide +kernel
theorem dX3_init_4 : decode cX3_init 4 = .ok (.aload_n 0, 1) := by decide +kernel
theorem dX3_init_5 : decode cX3_init 5 = .ok (.sipush 720, 3) := by decide +kernel
theorem dX3_init_8 : decode cX3_init 8 = .ok (.newarray .int, 2) := by decide +kernel
theorem dX3_init_10 : decode cX3_init 10 = .ok (.putfield 9, 3) := by decide +kernel
theorem dX3_init_13 : decode cX3_init 13 = .ok (.aload_n 0, 1) := by decide +kernel
theorem dX3_init_14 : decode cX3_init 14 = .ok (.sipush 720, 3) := by decide +kernel
theorem dX3_init_17 : decode cX3_init 17 = .ok (.newarray .int, 2) := by decide +kernel
theorem dX3_init_19 : decode cX3_init 19 = .ok (.putfield 15, 3) := by decide +kernel
theorem dX3_init_22 : decode cX3_init 22 = .ok (.aload_n 0, 1) := by decide +kernel
theorem dX3_init_23 : decode cX3_init 23 = .ok (.new 18, 3) := by decide +kernel
theorem dX3_init_26 : decode cX3_init 26 = .ok (.dup, 1) := by decide +kernel
theorem dX3_init_27 : decode cX3_init 27 = .ok (.invokespecial 20, 3) := by decide +kernel
theorem dX3_init_30 : decode cX3_init 30 = .ok (.putfield 21, 3) := by decide +kernel
theorem dX3_init_33 : decode cX3_init 33 = .ok (.aload_n 0, 1) := by decide +kernel
theorem dX3_init_34 : decode cX3_init 34 = .ok (.bipush 6, 2) := by decide +kernel
theorem dX3_init_36 : decode cX3_init 36 = .ok (.newarray .int, 2) := by decide +kernel
theorem dX3_init_38 : decode cX3_init 38 = .ok (.putfield 25, 3) := by decide +kernel
theorem dX3_init_41 : decode cX3_init 41 = .ok (.return_, 1) := by decide +kernel
theorem dX3_measure_0 : decode cX3_measure 0 = .ok (.aload_n 0, 1) := by decide +kernel
theorem dX3_measure_1 : decode cX3_measure 1 = .ok (.getfield 9, 3) := by decide +kernel
theorem dX3_measure_4 : decode cX3_measure 4 = .ok (.bipush (-4), 2) := by decide +kernel
theorem dX3_measure_6 : decode cX3_measure 6 = .ok (.invokestatic 28, 3) := by decide +kernel
theorem dX3_measure_9 : decode cX3_measure 9 = .ok (.aload_n 0, 1) := by decide +kernel
theorem dX3_measure_10 : decode cX3_measure 10 = .ok (.iconst 0, 1) := by decide +kernel
theorem dX3_measure_11 : decode cX3_measure 11 = .ok (.putfield 34, 3) := by decide +kernel
theorem dX3_measure_14 : decode cX3_measure 14 = .ok (.iconst 0, 1) := by decide +kernel
theorem dX3_measure_15 : decode cX3_measure 15 = .ok (.istore 4, 2) := by decide +kernel
theorem dX3_measure_17 : decode cX3_measure 17 = .ok (.iload 4, 2) := by decide +kernel
theorem dX3_measure_19 : decode cX3_measure 19 = .ok (.aload_n 1, 1) := by decide +kernel
theorem dX3_measure_20 : decode cX3_measure 20 = .ok (.invokevirtual 38, 3) := by decide +kernel
theorem dX3_measure_23 : decode cX3_measure 23 = .ok (.if_icmp .ge 35, 3) := by decide +kernel
theorem dX3_measure_26 : decode cX3_measure 26 = .ok (.iload 4, 2) := by decide +kernel
theorem dX3_measure_28 : decode cX3_measure 28 = .ok (.iconst 5, 1) := by decide +kernel
theorem dX3_measure_29 : decode cX3_measure 29 = .ok (.if_icmp .ge 29, 3) := by decide +kernel
theorem dX3_measure_32 : decode cX3_measure 32 = .ok (.aload_n 0, 1) := by decide +kernel
theorem dX3_measure_33 : decode cX3_measure 33 = .ok (.getfield 21, 3) := by decide +kernel
theorem dX3_measure_36 : decode cX3_measure 36 = .ok (.getfield 44, 3) := by decide +kernel
theorem dX3_measure_39 : decode cX3_measure 39 = .ok (.iload 4, 2) := by decide +kernel
theorem dX3_measure_41 : decode cX3_measure 41 = .ok (.aload_n 1, 1) := by decide +kernel
theorem dX3_measure_42 : decode cX3_measure 42 = .ok (.iload 4, 2) := by decide +kernel
theorem dX3_measure_44 : decode cX3_measure 44 = .ok (.aload_n 2, 1) := by decide +kernel
theorem dX3_measure_45 : decode cX3_measure 45 = .ok (.getfield 47, 3) := by decide +kernel
theorem dX3_measure_48 : decode cX3_measure 48 = .ok (.invokevirtual 50, 3) := by decide +kernel
theorem dX3_measure_51 : decode cX3_measure 51 = .ok (.iastore, 1) := by decide +kernel
theorem dX3_measure_52 : decode cX3_measure 52 = .ok (.iinc 4 1, 3) := by decide +kernel
theorem dX3_measure_55 : decode cX3_measure 55 = .ok (.goto (-38), 3) := by decide +kernel
theorem dX3_measure_58 : decode cX3_measure 58 = .ok (.aload_n 0, 1) := by decide +kernel
theorem dX3_measure_59 : decode cX3_measure 59 = .ok (.aload_n 3, 1) := by decide +kernel
theorem dX3_measure_60 : decode cX3_measure 60 = .ok (.aload_n 0, 1) := by decide +kernel
theorem dX3_measure_61 : decode cX3_measure 61 = .ok (.getfield 21, 3) := by decide +kernel
theorem dX3_measure_64 : decode cX3_measure 64 = .ok (.getfield 44, 3) := by decide +kernel
theorem dX3_measure_67 : decode cX3_measure 67 = .ok (.invokevirtual 54, 3) := by decide +kernel
theorem dX3_measure_70 : decode cX3_measure 70 = .ok (.iconst 0, 1) := by decide +kernel
theorem dX3_measure_71 : decode cX3_measure 71 = .ok (.invokevirtual 60, 3) := by decide +kernel
theorem dX3_measure_74 : decode cX3_measure 74 = .ok (.aload_n 3, 1) := by decide +kernel
theorem dX3_measure_75 : decode cX3_measure 75 = .ok (.aload_n 2, 1) := by decide +kernel
theorem dX3_measure_76 : decode cX3_measure 76 = .ok (.getfield 44, 3) := by decide +kernel
theorem dX3_measure_79 : decode cX3_measure 79 = .ok (.invokevirtual 54, 3) := by decide +kernel
theorem dX3_measure_82 : decode cX3_measure 82 = .ok (.istore 4, 2) := by decide +kernel
theorem dX3_measure_84 : decode cX3_measure 84 = .ok (.iload 4, 2) := by decide +kernel
theorem dX3_measure_86 : decode cX3_measure 86 = .ok (.ifCond .lt 11, 3) := by decide +kernel
theorem dX3_measure_89 : decode cX3_measure 89 = .ok (.iload 4, 2) := by decide +kernel
theorem dX3_measure_91 : decode cX3_measure 91 = .ok (.sipush 720, 3) := by decide +kernel
theorem dX3_measure_94 : decode cX3_measure 94 = .ok (.if_icmp .lt 4, 3) := by decide +kernel
theorem dX3_measure_97 : decode cX3_measure 97 = .ok (.return_, 1) := by decide +kernel
theorem dX3_measure_98 : decode cX3_measure 98 = .ok (.iconst 0, 1) := by decide +kernel
theorem dX3_measure_99 : decode cX3_measure 99 = .ok (.istore 5, 2) := by decide +kernel
theorem dX3_measure_101 : decode cX3_measure 101 = .ok (.iload 5, 2) := by decide +kernel
theorem dX3_measure_103 : decode cX3_measure 103 = .ok (.aload_n 0, 1) := by decide +kernel
theorem dX3_measure_104 : decode cX3_measure 104 = .ok (.getfield 34, 3) := by decide +kernel
theorem dX3_measure_107 : decode cX3_measure 107 = .ok (.if_icmp .ge 42, 3) := by decide +kernel
theorem dX3_measure_110 : decode cX3_measure 110 = .ok (.iload 5, 2) := by decide +kernel
theorem dX3_measure_112 : decode cX3_measure 112 = .ok (.sipush 720, 3) := by decide +kernel
theorem dX3_measure_115 : decode cX3_measure 115 = .ok (.if_icmp .ge 34, 3) := by decide +kernel
theorem dX3_measure_118 : decode cX3_measure 118 = .ok (.aload_n 0, 1) := by decide +kernel
theorem dX3_measure_119 : decode cX3_measure 119 = .ok (.getfield 9, 3) := by decide +kernel
theorem dX3_measure_122 : decode cX3_measure 122 = .ok (.iload 4, 2) := by decide +kernel
theorem dX3_measure_124 : decode cX3_measure 124 = .ok (.iaload, 1) := by decide +kernel
theorem dX3_measure_125 : decode cX3_measure 125 = .ok (.bipush (-4), 2) := by decide +kernel
theorem dX3_measure_127 : decode cX3_measure 127 = .ok (.if_icmp .ne 22, 3) := by decide +kernel
theorem dX3_measure_130 : decode cX3_measure 130 = .ok (.aload_n 0, 1) := by decide +kernel
theorem dX3_measure_131 : decode cX3_measure 131 = .ok (.aload_n 0, 1) := by decide +kernel
theorem dX3_measure_132 : decode cX3_measure 132 = .ok (.getfield 15, 3) := by decide +kernel
theorem dX3_measure_135 : decode cX3_measure 135 = .ok (.iload 5, 2) := by decide +kernel
theorem dX3_measure_137 : decode cX3_measure 137 = .ok (.iaload, 1) := by decide +kernel
theorem dX3_measure_138 : decode cX3_measure 138 = .ok (.aload_n 1, 1) := by decide +kernel
theorem dX3_measure_139 : decode cX3_measure 139 = .ok (.aload_n 3, 1) := by decide +kernel
theorem dX3_measure_140 : decode cX3_measure 140 = .ok (.invokevirtual 64, 3) := by decide +kernel
theorem dX3_measure_143 : decode cX3_measure 143 = .ok (.iinc 5 1, 3) := by decide +kernel
theorem dX3_measure_146 : decode cX3_measure 146 = .ok (.goto (-45), 3) := by decide +kernel
theorem dX3_measure_149 : decode cX3_measure 149 = .ok (.return_, 1) := by decide +kernel
theorem dX3_distanceOf_0 : decode cX3_distanceOf 0 = .ok (.aload_n 2, 1) := by decide +kernel
theorem dX3_distanceOf_1 : decode cX3_distanceOf 1 = .ok (.aload_n 1, 1) := by decide +kernel
theorem dX3_distanceOf_2 : decode cX3_distanceOf 2 = .ok (.invokevirtual 54, 3) := by decide +kernel
theorem dX3_distanceOf_5 : decode cX3_distanceOf 5 = .ok (.istore_n 3, 1) := by decide +kernel
theorem dX3_distanceOf_6 : decode cX3_distanceOf 6 = .ok (.iload_n 3, 1) := by decide +kernel
theorem dX3_distanceOf_7 : decode cX3_distanceOf 7 = .ok (.ifCond .lt 19, 3) := by decide +kernel
theorem dX3_distanceOf_10 : decode cX3_distanceOf 10 = .ok (.iload_n 3, 1) := by decide +kernel
theorem dX3_distanceOf_11 : decode cX3_distanceOf 11 = .ok (.sipush 720, 3) := by decide +kernel
theorem dX3_distanceOf_14 : decode cX3_distanceOf 14 = .ok (.if_icmp .ge 12, 3) := by decide +kernel
theorem dX3_distanceOf_17 : decode cX3_distanceOf 17 = .ok (.aload_n 0, 1) := by decide +kernel
theorem dX3_distanceOf_18 : decode cX3_distanceOf 18 = .ok (.getfield 9, 3) := by decide +kernel
theorem dX3_distanceOf_21 : decode cX3_distanceOf 21 = .ok (.iload_n 3, 1) := by decide +kernel
theorem dX3_distanceOf_22 : decode cX3_distanceOf 22 = .ok (.iaload, 1) := by decide +kernel
theorem dX3_distanceOf_23 : decode cX3_distanceOf 23 = .ok (.goto 5, 3) := by decide +kernel
theorem dX3_distanceOf_26 : decode cX3_distanceOf 26 = .ok (.bipush (-4), 2) := by decide +kernel
theorem dX3_distanceOf_28 : decode cX3_distanceOf 28 = .ok (.ireturn, 1) := by decide +kernel
theorem dX3_firstMove_0 : decode cX3_firstMove 0 = .ok (.aload_n 0, 1) := by decide +kernel
theorem dX3_firstMove_1 : decode cX3_firstMove 1 = .ok (.aload_n 2, 1) := by decide +kernel
theorem dX3_firstMove_2 : decode cX3_firstMove 2 = .ok (.getfield 44, 3) := by decide +kernel
theorem dX3_firstMove_5 : decode cX3_firstMove 5 = .ok (.aload_n 3, 1) := by decide +kernel
theorem dX3_firstMove_6 : decode cX3_firstMove 6 = .ok (.invokevirtual 68, 3) := by decide +kernel
theorem dX3_firstMove_9 : decode cX3_firstMove 9 = .ok (.iconst 1, 1) := by decide +kernel
theorem dX3_firstMove_10 : decode cX3_firstMove 10 = .ok (.isub, 1) := by decide +kernel
theorem dX3_firstMove_11 : decode cX3_firstMove 11 = .ok (.istore 4, 2) := by decide +kernel
theorem dX3_firstMove_13 : decode cX3_firstMove 13 = .ok (.aload_n 0, 1) := by decide +kernel
theorem dX3_firstMove_14 : decode cX3_firstMove 14 = .ok (.getfield 21, 3) := by decide +kernel
theorem dX3_firstMove_17 : decode cX3_firstMove 17 = .ok (.aload_n 2, 1) := by decide +kernel
theorem dX3_firstMove_18 : decode cX3_firstMove 18 = .ok (.invokevirtual 72, 3) := by decide +kernel
theorem dX3_firstMove_21 : decode cX3_firstMove 21 = .ok (.iconst 0, 1) := by decide +kernel
theorem dX3_firstMove_22 : decode cX3_firstMove 22 = .ok (.istore 5, 2) := by decide +kernel
theorem dX3_firstMove_24 : decode cX3_firstMove 24 = .ok (.iload 5, 2) := by decide +kernel
theorem dX3_firstMove_26 : decode cX3_firstMove 26 = .ok (.aload_n 1, 1) := by decide +kernel
theorem dX3_firstMove_27 : decode cX3_firstMove 27 = .ok (.invokevirtual 38, 3) := by decide +kernel
theorem dX3_firstMove_30 : decode cX3_firstMove 30 = .ok (.if_icmp .ge 125, 3) := by decide +kernel
theorem dX3_firstMove_33 : decode cX3_firstMove 33 = .ok (.iload 5, 2) := by decide +kernel
theorem dX3_firstMove_35 : decode cX3_firstMove 35 = .ok (.iconst 5, 1) := by decide +kernel
theorem dX3_firstMove_36 : decode cX3_firstMove 36 = .ok (.if_icmp .ge 119, 3) := by decide +kernel
theorem dX3_firstMove_39 : decode cX3_firstMove 39 = .ok (.aload_n 0, 1) := by decide +kernel
theorem dX3_firstMove_40 : decode cX3_firstMove 40 = .ok (.getfield 21, 3) := by decide +kernel
theorem dX3_firstMove_43 : decode cX3_firstMove 43 = .ok (.iload 5, 2) := by decide +kernel
theorem dX3_firstMove_45 : decode cX3_firstMove 45 = .ok (.invokevirtual 76, 3) := by decide +kernel
theorem dX3_firstMove_48 : decode cX3_firstMove 48 = .ok (.istore 6, 2) := by decide +kernel
theorem dX3_firstMove_50 : decode cX3_firstMove 50 = .ok (.iconst 0, 1) := by decide +kernel
theorem dX3_firstMove_51 : decode cX3_firstMove 51 = .ok (.istore 7, 2) := by decide +kernel
theorem dX3_firstMove_53 : decode cX3_firstMove 53 = .ok (.iload 7, 2) := by decide +kernel
theorem dX3_firstMove_55 : decode cX3_firstMove 55 = .ok (.aload_n 1, 1) := by decide +kernel
theorem dX3_firstMove_56 : decode cX3_firstMove 56 = .ok (.invokevirtual 80, 3) := by decide +kernel
theorem dX3_firstMove_59 : decode cX3_firstMove 59 = .ok (.if_icmp .ge 90, 3) := by decide +kernel
theorem dX3_firstMove_62 : decode cX3_firstMove 62 = .ok (.aload_n 0, 1) := by decide +kernel
theorem dX3_firstMove_63 : decode cX3_firstMove 63 = .ok (.getfield 21, 3) := by decide +kernel
theorem dX3_firstMove_66 : decode cX3_firstMove 66 = .ok (.iload 7, 2) := by decide +kernel
theorem dX3_firstMove_68 : decode cX3_firstMove 68 = .ok (.aload_n 1, 1) := by decide +kernel
theorem dX3_firstMove_69 : decode cX3_firstMove 69 = .ok (.invokevirtual 38, 3) := by decide +kernel
theorem dX3_firstMove_72 : decode cX3_firstMove 72 = .ok (.invokevirtual 83, 3) := by decide +kernel
theorem dX3_firstMove_75 : decode cX3_firstMove 75 = .ok (.ifCond .eq 68, 3) := by decide +kernel
theorem dX3_firstMove_78 : decode cX3_firstMove 78 = .ok (.aload_n 1, 1) := by decide +kernel
theorem dX3_firstMove_79 : decode cX3_firstMove 79 = .ok (.iload 5, 2) := by decide +kernel
theorem dX3_firstMove_81 : decode cX3_firstMove 81 = .ok (.iload 7, 2) := by decide +kernel
theorem dX3_firstMove_83 : decode cX3_firstMove 83 = .ok (.aload_n 0, 1) := by decide +kernel
theorem dX3_firstMove_84 : decode cX3_firstMove 84 = .ok (.getfield 21, 3) := by decide +kernel
theorem dX3_firstMove_87 : decode cX3_firstMove 87 = .ok (.invokevirtual 87, 3) := by decide +kernel
theorem dX3_firstMove_90 : decode cX3_firstMove 90 = .ok (.ifCond .ne 53, 3) := by decide +kernel
theorem dX3_firstMove_93 : decode cX3_firstMove 93 = .ok (.aload_n 0, 1) := by decide +kernel
theorem dX3_firstMove_94 : decode cX3_firstMove 94 = .ok (.getfield 21, 3) := by decide +kernel
theorem dX3_firstMove_97 : decode cX3_firstMove 97 = .ok (.getfield 44, 3) := by decide +kernel
theorem dX3_firstMove_100 : decode cX3_firstMove 100 = .ok (.iload 5, 2) := by decide +kernel
theorem dX3_firstMove_102 : decode cX3_firstMove 102 = .ok (.iload 7, 2) := by decide +kernel
theorem dX3_firstMove_104 : decode cX3_firstMove 104 = .ok (.iastore, 1) := by decide +kernel
theorem dX3_firstMove_105 : decode cX3_firstMove 105 = .ok (.aload_n 0, 1) := by decide +kernel
theorem dX3_firstMove_106 : decode cX3_firstMove 106 = .ok (.aload_n 0, 1) := by decide +kernel
theorem dX3_firstMove_107 : decode cX3_firstMove 107 = .ok (.getfield 21, 3) := by decide +kernel
theorem dX3_firstMove_110 : decode cX3_firstMove 110 = .ok (.getfield 44, 3) := by decide +kernel
theorem dX3_firstMove_113 : decode cX3_firstMove 113 = .ok (.aload_n 3, 1) := by decide +kernel
theorem dX3_firstMove_114 : decode cX3_firstMove 114 = .ok (.invokevirtual 68, 3) := by decide +kernel
theorem dX3_firstMove_117 : decode cX3_firstMove 117 = .ok (.iload 4, 2) := by decide +kernel
theorem dX3_firstMove_119 : decode cX3_firstMove 119 = .ok (.if_icmp .ne 12, 3) := by decide +kernel
theorem dX3_firstMove_122 : decode cX3_firstMove 122 = .ok (.bipush 8, 2) := by decide +kernel
theorem dX3_firstMove_124 : decode cX3_firstMove 124 = .ok (.iload 5, 2) := by decide +kernel
theorem dX3_firstMove_126 : decode cX3_firstMove 126 = .ok (.imul, 1) := by decide +kernel
theorem dX3_firstMove_127 : decode cX3_firstMove 127 = .ok (.iload 7, 2) := by decide +kernel
theorem dX3_firstMove_129 : decode cX3_firstMove 129 = .ok (.iadd, 1) := by decide +kernel
theorem dX3_firstMove_130 : decode cX3_firstMove 130 = .ok (.ireturn, 1) := by decide +kernel
theorem dX3_firstMove_131 : decode cX3_firstMove 131 = .ok (.aload_n 0, 1) := by decide +kernel
theorem dX3_firstMove_132 : decode cX3_firstMove 132 = .ok (.getfield 21, 3) := by decide +kernel
theorem dX3_firstMove_135 : decode cX3_firstMove 135 = .ok (.getfield 44, 3) := by decide +kernel
theorem dX3_firstMove_138 : decode cX3_firstMove 138 = .ok (.iload 5, 2) := by decide +kernel
theorem dX3_firstMove_140 : decode cX3_firstMove 140 = .ok (.iload 6, 2) := by decide +kernel
theorem dX3_firstMove_142 : decode cX3_firstMove 142 = .ok (.iastore, 1) := by decide +kernel
theorem dX3_firstMove_143 : decode cX3_firstMove 143 = .ok (.iinc 7 1, 3) := by decide +kernel
theorem dX3_firstMove_146 : decode cX3_firstMove 146 = .ok (.goto (-93), 3) := by decide +kernel
theorem dX3_firstMove_149 : decode cX3_firstMove 149 = .ok (.iinc 5 1, 3) := by decide +kernel
theorem dX3_firstMove_152 : decode cX3_firstMove 152 = .ok (.goto (-128), 3) := by decide +kernel
theorem dX3_firstMove_155 : decode cX3_firstMove 155 = .ok (.bipush (-4), 2) := by decide +kernel
theorem dX3_firstMove_157 : decode cX3_firstMove 157 = .ok (.ireturn, 1) := by decide +kernel
theorem dX3_reach_0 : decode cX3_reach 0 = .ok (.iload_n 1, 1) := by decide +kernel
theorem dX3_reach_1 : decode cX3_reach 1 = .ok (.ifCond .lt 20, 3) := by decide +kernel
theorem dX3_reach_4 : decode cX3_reach 4 = .ok (.iload_n 1, 1) := by decide +kernel
theorem dX3_reach_5 : decode cX3_reach 5 = .ok (.sipush 720, 3) := by decide +kernel
theorem dX3_reach_8 : decode cX3_reach 8 = .ok (.if_icmp .ge 13, 3) := by decide +kernel
theorem dX3_reach_11 : decode cX3_reach 11 = .ok (.aload_n 0, 1) := by decide +kernel
theorem dX3_reach_12 : decode cX3_reach 12 = .ok (.getfield 34, 3) := by decide +kernel
theorem dX3_reach_15 : decode cX3_reach 15 = .ok (.sipush 720, 3) := by decide +kernel
theorem dX3_reach_18 : decode cX3_reach 18 = .ok (.if_icmp .lt 4, 3) := by decide +kernel
theorem dX3_reach_21 : decode cX3_reach 21 = .ok (.return_, 1) := by decide +kernel
theorem dX3_reach_22 : decode cX3_reach 22 = .ok (.aload_n 0, 1) := by decide +kernel
theorem dX3_reach_23 : decode cX3_reach 23 = .ok (.getfield 9, 3) := by decide +kernel
theorem dX3_reach_26 : decode cX3_reach 26 = .ok (.iload_n 1, 1) := by decide +kernel
theorem dX3_reach_27 : decode cX3_reach 27 = .ok (.iaload, 1) := by decide +kernel
theorem dX3_reach_28 : decode cX3_reach 28 = .ok (.bipush (-4), 2) := by decide +kernel
theorem dX3_reach_30 : decode cX3_reach 30 = .ok (.if_icmp .ne 30, 3) := by decide +kernel
theorem dX3_reach_33 : decode cX3_reach 33 = .ok (.aload_n 0, 1) := by decide +kernel
theorem dX3_reach_34 : decode cX3_reach 34 = .ok (.getfield 9, 3) := by decide +kernel
theorem dX3_reach_37 : decode cX3_reach 37 = .ok (.iload_n 1, 1) := by decide +kernel
theorem dX3_reach_38 : decode cX3_reach 38 = .ok (.iload_n 2, 1) := by decide +kernel
theorem dX3_reach_39 : decode cX3_reach 39 = .ok (.iastore, 1) := by decide +kernel
theorem dX3_reach_40 : decode cX3_reach 40 = .ok (.aload_n 0, 1) := by decide +kernel
theorem dX3_reach_41 : decode cX3_reach 41 = .ok (.getfield 15, 3) := by decide +kernel
theorem dX3_reach_44 : decode cX3_reach 44 = .ok (.aload_n 0, 1) := by decide +kernel
theorem dX3_reach_45 : decode cX3_reach 45 = .ok (.getfield 34, 3) := by decide +kernel
theorem dX3_reach_48 : decode cX3_reach 48 = .ok (.iload_n 1, 1) := by decide +kernel
theorem dX3_reach_49 : decode cX3_reach 49 = .ok (.iastore, 1) := by decide +kernel
theorem dX3_reach_50 : decode cX3_reach 50 = .ok (.aload_n 0, 1) := by decide +kernel
theorem dX3_reach_51 : decode cX3_reach 51 = .ok (.dup, 1) := by decide +kernel
theorem dX3_reach_52 : decode cX3_reach 52 = .ok (.getfield 34, 3) := by decide +kernel
theorem dX3_reach_55 : decode cX3_reach 55 = .ok (.iconst 1, 1) := by decide +kernel
theorem dX3_reach_56 : decode cX3_reach 56 = .ok (.iadd, 1) := by decide +kernel
theorem dX3_reach_57 : decode cX3_reach 57 = .ok (.putfield 34, 3) := by decide +kernel
theorem dX3_reach_60 : decode cX3_reach 60 = .ok (.return_, 1) := by decide +kernel
theorem dX3_goOn_0 : decode cX3_goOn 0 = .ok (.iload_n 1, 1) := by decide +kernel
theorem dX3_goOn_1 : decode cX3_goOn 1 = .ok (.ifCond .lt 10, 3) := by decide +kernel
theorem dX3_goOn_4 : decode cX3_goOn 4 = .ok (.iload_n 1, 1) := by decide +kernel
theorem dX3_goOn_5 : decode cX3_goOn 5 = .ok (.sipush 720, 3) := by decide +kernel
theorem dX3_goOn_8 : decode cX3_goOn 8 = .ok (.if_icmp .lt 4, 3) := by decide +kernel
theorem dX3_goOn_11 : decode cX3_goOn 11 = .ok (.return_, 1) := by decide +kernel
theorem dX3_goOn_12 : decode cX3_goOn 12 = .ok (.aload_n 3, 1) := by decide +kernel
theorem dX3_goOn_13 : decode cX3_goOn 13 = .ok (.iload_n 1, 1) := by decide +kernel
theorem dX3_goOn_14 : decode cX3_goOn 14 = .ok (.aload_n 0, 1) := by decide +kernel
theorem dX3_goOn_15 : decode cX3_goOn 15 = .ok (.getfield 21, 3) := by decide +kernel
theorem dX3_goOn_18 : decode cX3_goOn 18 = .ok (.getfield 44, 3) := by decide +kernel
theorem dX3_goOn_21 : decode cX3_goOn 21 = .ok (.invokevirtual 91, 3) := by decide +kernel
theorem dX3_goOn_24 : decode cX3_goOn 24 = .ok (.aload_n 0, 1) := by decide +kernel
theorem dX3_goOn_25 : decode cX3_goOn 25 = .ok (.aload_n 2, 1) := by decide +kernel
theorem dX3_goOn_26 : decode cX3_goOn 26 = .ok (.invokevirtual 95, 3) := by decide +kernel
theorem dX3_goOn_29 : decode cX3_goOn 29 = .ok (.iconst 0, 1) := by decide +kernel
theorem dX3_goOn_30 : decode cX3_goOn 30 = .ok (.istore 4, 2) := by decide +kernel
theorem dX3_goOn_32 : decode cX3_goOn 32 = .ok (.iload 4, 2) := by decide +kernel
theorem dX3_goOn_34 : decode cX3_goOn 34 = .ok (.aload_n 2, 1) := by decide +kernel
theorem dX3_goOn_35 : decode cX3_goOn 35 = .ok (.invokevirtual 38, 3) := by decide +kernel
theorem dX3_goOn_38 : decode cX3_goOn 38 = .ok (.if_icmp .ge 43, 3) := by decide +kernel
theorem dX3_goOn_41 : decode cX3_goOn 41 = .ok (.aload_n 0, 1) := by decide +kernel
theorem dX3_goOn_42 : decode cX3_goOn 42 = .ok (.iload 4, 2) := by decide +kernel
theorem dX3_goOn_44 : decode cX3_goOn 44 = .ok (.iconst 1, 1) := by decide +kernel
theorem dX3_goOn_45 : decode cX3_goOn 45 = .ok (.aload_n 0, 1) := by decide +kernel
theorem dX3_goOn_46 : decode cX3_goOn 46 = .ok (.getfield 9, 3) := by decide +kernel
theorem dX3_goOn_49 : decode cX3_goOn 49 = .ok (.iload_n 1, 1) := by decide +kernel
theorem dX3_goOn_50 : decode cX3_goOn 50 = .ok (.iaload, 1) := by decide +kernel
theorem dX3_goOn_51 : decode cX3_goOn 51 = .ok (.iconst 1, 1) := by decide +kernel
theorem dX3_goOn_52 : decode cX3_goOn 52 = .ok (.iadd, 1) := by decide +kernel
theorem dX3_goOn_53 : decode cX3_goOn 53 = .ok (.aload_n 2, 1) := by decide +kernel
theorem dX3_goOn_54 : decode cX3_goOn 54 = .ok (.aload_n 3, 1) := by decide +kernel
theorem dX3_goOn_55 : decode cX3_goOn 55 = .ok (.invokevirtual 99, 3) := by decide +kernel
theorem dX3_goOn_58 : decode cX3_goOn 58 = .ok (.aload_n 0, 1) := by decide +kernel
theorem dX3_goOn_59 : decode cX3_goOn 59 = .ok (.iload 4, 2) := by decide +kernel
theorem dX3_goOn_61 : decode cX3_goOn 61 = .ok (.iconst (-1), 1) := by decide +kernel
theorem dX3_goOn_62 : decode cX3_goOn 62 = .ok (.aload_n 0, 1) := by decide +kernel
theorem dX3_goOn_63 : decode cX3_goOn 63 = .ok (.getfield 9, 3) := by decide +kernel
theorem dX3_goOn_66 : decode cX3_goOn 66 = .ok (.iload_n 1, 1) := by decide +kernel
theorem dX3_goOn_67 : decode cX3_goOn 67 = .ok (.iaload, 1) := by decide +kernel
theorem dX3_goOn_68 : decode cX3_goOn 68 = .ok (.iconst 1, 1) := by decide +kernel
theorem dX3_goOn_69 : decode cX3_goOn 69 = .ok (.iadd, 1) := by decide +kernel
theorem dX3_goOn_70 : decode cX3_goOn 70 = .ok (.aload_n 2, 1) := by decide +kernel
theorem dX3_goOn_71 : decode cX3_goOn 71 = .ok (.aload_n 3, 1) := by decide +kernel
theorem dX3_goOn_72 : decode cX3_goOn 72 = .ok (.invokevirtual 99, 3) := by decide +kernel
theorem dX3_goOn_75 : decode cX3_goOn 75 = .ok (.iinc 4 1, 3) := by decide +kernel
theorem dX3_goOn_78 : decode cX3_goOn 78 = .ok (.goto (-46), 3) := by decide +kernel
theorem dX3_goOn_81 : decode cX3_goOn 81 = .ok (.return_, 1) := by decide +kernel
theorem dX3_noteSleepers_0 : decode cX3_noteSleepers 0 = .ok (.aload_n 0, 1) := by decide +kernel
theorem dX3_noteSleepers_1 : decode cX3_noteSleepers 1 = .ok (.getfield 25, 3) := by decide +kernel
theorem dX3_noteSleepers_4 : decode cX3_noteSleepers 4 = .ok (.iconst 0, 1) := by decide +kernel
theorem dX3_noteSleepers_5 : decode cX3_noteSleepers 5 = .ok (.invokestatic 28, 3) := by decide +kernel
theorem dX3_noteSleepers_8 : decode cX3_noteSleepers 8 = .ok (.iconst 0, 1) := by decide +kernel
theorem dX3_noteSleepers_9 : decode cX3_noteSleepers 9 = .ok (.istore_n 2, 1) := by decide +kernel
theorem dX3_noteSleepers_10 : decode cX3_noteSleepers 10 = .ok (.iload_n 2, 1) := by decide +kernel
theorem dX3_noteSleepers_11 : decode cX3_noteSleepers 11 = .ok (.aload_n 1, 1) := by decide +kernel
theorem dX3_noteSleepers_12 : decode cX3_noteSleepers 12 = .ok (.invokevirtual 38, 3) := by decide +kernel
theorem dX3_noteSleepers_15 : decode cX3_noteSleepers 15 = .ok (.if_icmp .ge 47, 3) := by decide +kernel
theorem dX3_noteSleepers_18 : decode cX3_noteSleepers 18 = .ok (.aload_n 0, 1) := by decide +kernel
theorem dX3_noteSleepers_19 : decode cX3_noteSleepers 19 = .ok (.getfield 21, 3) := by decide +kernel
theorem dX3_noteSleepers_22 : decode cX3_noteSleepers 22 = .ok (.iload_n 2, 1) := by decide +kernel
theorem dX3_noteSleepers_23 : decode cX3_noteSleepers 23 = .ok (.invokevirtual 76, 3) := by decide +kernel
theorem dX3_noteSleepers_26 : decode cX3_noteSleepers 26 = .ok (.istore_n 3, 1) := by decide +kernel
theorem dX3_noteSleepers_27 : decode cX3_noteSleepers 27 = .ok (.iload_n 3, 1) := by decide +kernel
theorem dX3_noteSleepers_28 : decode cX3_noteSleepers 28 = .ok (.ifCond .lt 28, 3) := by decide +kernel
theorem dX3_noteSleepers_31 : decode cX3_noteSleepers 31 = .ok (.iload_n 3, 1) := by decide +kernel
theorem dX3_noteSleepers_32 : decode cX3_noteSleepers 32 = .ok (.bipush 6, 2) := by decide +kernel
theorem dX3_noteSleepers_34 : decode cX3_noteSleepers 34 = .ok (.if_icmp .ge 22, 3) := by decide +kernel
theorem dX3_noteSleepers_37 : decode cX3_noteSleepers 37 = .ok (.aload_n 0, 1) := by decide +kernel
theorem dX3_noteSleepers_38 : decode cX3_noteSleepers 38 = .ok (.getfield 25, 3) := by decide +kernel
theorem dX3_noteSleepers_41 : decode cX3_noteSleepers 41 = .ok (.iload_n 3, 1) := by decide +kernel
theorem dX3_noteSleepers_42 : decode cX3_noteSleepers 42 = .ok (.aload_n 1, 1) := by decide +kernel
theorem dX3_noteSleepers_43 : decode cX3_noteSleepers 43 = .ok (.iload_n 2, 1) := by decide +kernel
theorem dX3_noteSleepers_44 : decode cX3_noteSleepers 44 = .ok (.invokevirtual 103, 3) := by decide +kernel
theorem dX3_noteSleepers_47 : decode cX3_noteSleepers 47 = .ok (.ifCond .eq 7, 3) := by decide +kernel
theorem dX3_noteSleepers_50 : decode cX3_noteSleepers 50 = .ok (.iconst 2, 1) := by decide +kernel
theorem dX3_noteSleepers_51 : decode cX3_noteSleepers 51 = .ok (.goto 4, 3) := by decide +kernel
theorem dX3_noteSleepers_54 : decode cX3_noteSleepers 54 = .ok (.iconst 1, 1) := by decide +kernel
theorem dX3_noteSleepers_55 : decode cX3_noteSleepers 55 = .ok (.iastore, 1) := by decide +kernel
theorem dX3_noteSleepers_56 : decode cX3_noteSleepers 56 = .ok (.iinc 2 1, 3) := by decide +kernel
theorem dX3_noteSleepers_59 : decode cX3_noteSleepers 59 = .ok (.goto (-49), 3) := by decide +kernel
theorem dX3_noteSleepers_62 : decode cX3_noteSleepers 62 = .ok (.return_, 1) := by decide +kernel
theorem dX3_goAside_0 : decode cX3_goAside 0 = .ok (.iload_n 1, 1) := by decide +kernel
theorem dX3_goAside_1 : decode cX3_goAside 1 = .ok (.ifCond .lt 8, 3) := by decide +kernel
theorem dX3_goAside_4 : decode cX3_goAside 4 = .ok (.iload_n 1, 1) := by decide +kernel
theorem dX3_goAside_5 : decode cX3_goAside 5 = .ok (.iconst 5, 1) := by decide +kernel
theorem dX3_goAside_6 : decode cX3_goAside 6 = .ok (.if_icmp .lt 4, 3) := by decide +kernel
theorem dX3_goAside_9 : decode cX3_goAside 9 = .ok (.return_, 1) := by decide +kernel
theorem dX3_goAside_10 : decode cX3_goAside 10 = .ok (.aload_n 0, 1) := by decide +kernel
theorem dX3_goAside_11 : decode cX3_goAside 11 = .ok (.getfield 21, 3) := by decide +kernel
theorem dX3_goAside_14 : decode cX3_goAside 14 = .ok (.getfield 44, 3) := by decide +kernel
theorem dX3_goAside_17 : decode cX3_goAside 17 = .ok (.iload_n 1, 1) := by decide +kernel
theorem dX3_goAside_18 : decode cX3_goAside 18 = .ok (.iaload, 1) := by decide +kernel
theorem dX3_goAside_19 : decode cX3_goAside 19 = .ok (.istore 6, 2) := by decide +kernel
theorem dX3_goAside_21 : decode cX3_goAside 21 = .ok (.iload 6, 2) := by decide +kernel
theorem dX3_goAside_23 : decode cX3_goAside 23 = .ok (.iload_n 2, 1) := by decide +kernel
theorem dX3_goAside_24 : decode cX3_goAside 24 = .ok (.iadd, 1) := by decide +kernel
theorem dX3_goAside_25 : decode cX3_goAside 25 = .ok (.istore 7, 2) := by decide +kernel
theorem dX3_goAside_27 : decode cX3_goAside 27 = .ok (.iconst 1, 1) := by decide +kernel
theorem dX3_goAside_28 : decode cX3_goAside 28 = .ok (.istore 8, 2) := by decide +kernel
theorem dX3_goAside_30 : decode cX3_goAside 30 = .ok (.iload 8, 2) := by decide +kernel
theorem dX3_goAside_32 : decode cX3_goAside 32 = .ok (.bipush 6, 2) := by decide +kernel
theorem dX3_goAside_34 : decode cX3_goAside 34 = .ok (.if_icmp .ge 93, 3) := by decide +kernel
theorem dX3_goAside_37 : decode cX3_goAside 37 = .ok (.aload 4, 2) := by decide +kernel
theorem dX3_goAside_39 : decode cX3_goAside 39 = .ok (.iload 7, 2) := by decide +kernel
theorem dX3_goAside_41 : decode cX3_goAside 41 = .ok (.invokevirtual 107, 3) := by decide +kernel
theorem dX3_goAside_44 : decode cX3_goAside 44 = .ok (.ifCond .eq 83, 3) := by decide +kernel
theorem dX3_goAside_47 : decode cX3_goAside 47 = .ok (.iload 7, 2) := by decide +kernel
theorem dX3_goAside_49 : decode cX3_goAside 49 = .ok (.bipush 6, 2) := by decide +kernel
theorem dX3_goAside_51 : decode cX3_goAside 51 = .ok (.if_icmp .ge 76, 3) := by decide +kernel
theorem dX3_goAside_54 : decode cX3_goAside 54 = .ok (.aload_n 0, 1) := by decide +kernel
theorem dX3_goAside_55 : decode cX3_goAside 55 = .ok (.getfield 25, 3) := by decide +kernel
theorem dX3_goAside_58 : decode cX3_goAside 58 = .ok (.iload 7, 2) := by decide +kernel
theorem dX3_goAside_60 : decode cX3_goAside 60 = .ok (.iaload, 1) := by decide +kernel
theorem dX3_goAside_61 : decode cX3_goAside 61 = .ok (.iconst 2, 1) := by decide +kernel
theorem dX3_goAside_62 : decode cX3_goAside 62 = .ok (.if_icmp .ne 4, 3) := by decide +kernel
theorem dX3_goAside_65 : decode cX3_goAside 65 = .ok (.return_, 1) := by decide +kernel
theorem dX3_goAside_66 : decode cX3_goAside 66 = .ok (.aload_n 0, 1) := by decide +kernel
theorem dX3_goAside_67 : decode cX3_goAside 67 = .ok (.getfield 25, 3) := by decide +kernel
theorem dX3_goAside_70 : decode cX3_goAside 70 = .ok (.iload 7, 2) := by decide +kernel
theorem dX3_goAside_72 : decode cX3_goAside 72 = .ok (.iaload, 1) := by decide +kernel
theorem dX3_goAside_73 : decode cX3_goAside 73 = .ok (.ifCond .ne 42, 3) := by decide +kernel
theorem dX3_goAside_76 : decode cX3_goAside 76 = .ok (.aload_n 0, 1) := by decide +kernel
theorem dX3_goAside_77 : decode cX3_goAside 77 = .ok (.getfield 21, 3) := by decide +kernel
theorem dX3_goAside_80 : decode cX3_goAside 80 = .ok (.getfield 44, 3) := by decide +kernel
theorem dX3_goAside_83 : decode cX3_goAside 83 = .ok (.iload_n 1, 1) := by decide +kernel
theorem dX3_goAside_84 : decode cX3_goAside 84 = .ok (.iload 7, 2) := by decide +kernel
theorem dX3_goAside_86 : decode cX3_goAside 86 = .ok (.iastore, 1) := by decide +kernel
theorem dX3_goAside_87 : decode cX3_goAside 87 = .ok (.aload_n 0, 1) := by decide +kernel
theorem dX3_goAside_88 : decode cX3_goAside 88 = .ok (.aload 5, 2) := by decide +kernel
theorem dX3_goAside_90 : decode cX3_goAside 90 = .ok (.aload_n 0, 1) := by decide +kernel
theorem dX3_goAside_91 : decode cX3_goAside 91 = .ok (.getfield 21, 3) := by decide +kernel
theorem dX3_goAside_94 : decode cX3_goAside 94 = .ok (.getfield 44, 3) := by decide +kernel
theorem dX3_goAside_97 : decode cX3_goAside 97 = .ok (.invokevirtual 54, 3) := by decide +kernel
theorem dX3_goAside_100 : decode cX3_goAside 100 = .ok (.iload_n 3, 1) := by decide +kernel
theorem dX3_goAside_101 : decode cX3_goAside 101 = .ok (.invokevirtual 60, 3) := by decide +kernel
theorem dX3_goAside_104 : decode cX3_goAside 104 = .ok (.aload_n 0, 1) := by decide +kernel
theorem dX3_goAside_105 : decode cX3_goAside 105 = .ok (.getfield 21, 3) := by decide +kernel
theorem dX3_goAside_108 : decode cX3_goAside 108 = .ok (.getfield 44, 3) := by decide +kernel
theorem dX3_goAside_111 : decode cX3_goAside 111 = .ok (.iload_n 1, 1) := by decide +kernel
theorem dX3_goAside_112 : decode cX3_goAside 112 = .ok (.iload 6, 2) := by decide +kernel
theorem dX3_goAside_114 : decode cX3_goAside 114 = .ok (.iastore, 1) := by decide +kernel
theorem dX3_goAside_115 : decode cX3_goAside 115 = .ok (.iload 7, 2) := by decide +kernel
theorem dX3_goAside_117 : decode cX3_goAside 117 = .ok (.iload_n 2, 1) := by decide +kernel
theorem dX3_goAside_118 : decode cX3_goAside 118 = .ok (.iadd, 1) := by decide +kernel
theorem dX3_goAside_119 : decode cX3_goAside 119 = .ok (.istore 7, 2) := by decide +kernel
theorem dX3_goAside_121 : decode cX3_goAside 121 = .ok (.iinc 8 1, 3) := by decide +kernel
theorem dX3_goAside_124 : decode cX3_goAside 124 = .ok (.goto (-94), 3) := by decide +kernel
theorem dX3_goAside_127 : decode cX3_goAside 127 = .ok (.return_, 1) := by decide +kernel
theorem dX4_init_0 : decode cX4_init 0 = .ok (.aload_n 0, 1) := by decide +kernel
theorem dX4_init_1 : decode cX4_init 1 = .ok (.invokespecial 1, 3) := by decide +kernel
theorem dX4_init_4 : decode cX4_init 4 = .ok (.aload_n 0, 1) := by decide +kernel
theorem dX4_init_5 : decode cX4_init 5 = .ok (.iconst 1, 1) := by decide +kernel
theorem dX4_init_6 : decode cX4_init 6 = .ok (.iload_n 1, 1) := by decide +kernel
theorem dX4_init_7 : decode cX4_init 7 = .ok (.invokestatic 7, 3) := by decide +kernel
theorem dX4_init_10 : decode cX4_init 10 = .ok (.putfield 13, 3) := by decide +kernel
theorem dX4_init_13 : decode cX4_init 13 = .ok (.aload_n 0, 1) := by decide +kernel
theorem dX4_init_14 : decode cX4_init 14 = .ok (.aload_n 0, 1) := by decide +kernel
theorem dX4_init_15 : decode cX4_init 15 = .ok (.getfield 13, 3) := by decide +kernel
theorem dX4_init_18 : decode cX4_init 18 = .ok (.bipush 10, 2) := by decide +kernel
theorem dX4_init_20 : decode cX4_init 20 = .ok (.imul, 1) := by decide +kernel
theorem dX4_init_21 : decode cX4_init 21 = .ok (.newarray .int, 2) := by decide +kernel
theorem dX4_init_23 : decode cX4_init 23 = .ok (.putfield 21, 3) := by decide +kernel
theorem dX4_init_26 : decode cX4_init 26 = .ok (.return_, 1) := by decide +kernel
theorem dX4_size_0 : decode cX4_size 0 = .ok (.aload_n 0, 1) := by decide +kernel
theorem dX4_size_1 : decode cX4_size 1 = .ok (.getfield 25, 3) := by decide +kernel
theorem dX4_size_4 : decode cX4_size 4 = .ok (.ireturn, 1) := by decide +kernel
theorem dX4_isFull_0 : decode cX4_isFull 0 = .ok (.aload_n 0, 1) := by decide +kernel
theorem dX4_isFull_1 : decode cX4_isFull 1 = .ok (.getfield 25, 3) := by decide +kernel
theorem dX4_isFull_4 : decode cX4_isFull 4 = .ok (.aload_n 0, 1) := by decide +kernel
theorem dX4_isFull_5 : decode cX4_isFull 5 = .ok (.getfield 13, 3) := by decide +kernel
theorem dX4_isFull_8 : decode cX4_isFull 8 = .ok (.if_icmp .lt 7, 3) := by decide +kernel
theorem dX4_isFull_11 : decode cX4_isFull 11 = .ok (.iconst 1, 1) := by decide +kernel
theorem dX4_isFull_12 : decode cX4_isFull 12 = .ok (.goto 4, 3) := by decide +kernel
theorem dX4_isFull_15 : decode cX4_isFull 15 = .ok (.iconst 0, 1) := by decide +kernel
theorem dX4_isFull_16 : decode cX4_isFull 16 = .ok (.ireturn, 1) := by decide +kernel
theorem dX4_clear_0 : decode cX4_clear 0 = .ok (.aload_n 0, 1) := by decide +kernel
theorem dX4_clear_1 : decode cX4_clear 1 = .ok (.iconst 0, 1) := by decide +kernel
theorem dX4_clear_2 : decode cX4_clear 2 = .ok (.putfield 25, 3) := by decide +kernel
theorem dX4_clear_5 : decode cX4_clear 5 = .ok (.return_, 1) := by decide +kernel
theorem dX4_put_0 : decode cX4_put 0 = .ok (.aload_n 0, 1) := by decide +kernel
theorem dX4_put_1 : decode cX4_put 1 = .ok (.invokevirtual 28, 3) := by decide +kernel
theorem dX4_put_4 : decode cX4_put 4 = .ok (.ifCond .eq 35, 3) := by decide +kernel
theorem dX4_put_7 : decode cX4_put 7 = .ok (.aload_n 0, 1) := by decide +kernel
theorem dX4_put_8 : decode cX4_put 8 = .ok (.getfield 21, 3) := by decide +kernel
theorem dX4_put_11 : decode cX4_put 11 = .ok (.bipush 10, 2) := by decide +kernel
theorem dX4_put_13 : decode cX4_put 13 = .ok (.aload_n 0, 1) := by decide +kernel
theorem dX4_put_14 : decode cX4_put 14 = .ok (.getfield 21, 3) := by decide +kernel
theorem dX4_put_17 : decode cX4_put 17 = .ok (.iconst 0, 1) := by decide +kernel
theorem dX4_put_18 : decode cX4_put 18 = .ok (.aload_n 0, 1) := by decide +kernel
theorem dX4_put_19 : decode cX4_put 19 = .ok (.getfield 21, 3) := by decide +kernel
theorem dX4_put_22 : decode cX4_put 22 = .ok (.arraylength, 1) := by decide +kernel
theorem dX4_put_23 : decode cX4_put 23 = .ok (.bipush 10, 2) := by decide +kernel
theorem dX4_put_25 : decode cX4_put 25 = .ok (.isub, 1) := by decide +kernel
theorem dX4_put_26 : decode cX4_put 26 = .ok (.invokestatic 32, 3) := by decide +kernel
theorem dX4_put_29 : decode cX4_put 29 = .ok (.aload_n 0, 1) := by decide +kernel
theorem dX4_put_30 : decode cX4_put 30 = .ok (.aload_n 0, 1) := by decide +kernel
theorem dX4_put_31 : decode cX4_put 31 = .ok (.getfield 13, 3) := by decide +kernel
theorem dX4_put_34 : decode cX4_put 34 = .ok (.iconst 1, 1) := by decide +kernel
theorem dX4_put_35 : decode cX4_put 35 = .ok (.isub, 1) := by decide +kernel
theorem dX4_put_36 : decode cX4_put 36 = .ok (.putfield 25, 3) := by decide +kernel
theorem dX4_put_39 : decode cX4_put 39 = .ok (.aload_n 1, 1) := by decide +kernel
theorem dX4_put_40 : decode cX4_put 40 = .ok (.aload_n 0, 1) := by decide +kernel
theorem dX4_put_41 : decode cX4_put 41 = .ok (.getfield 21, 3) := by decide +kernel
theorem dX4_put_44 : decode cX4_put 44 = .ok (.aload_n 0, 1) := by decide +kernel
theorem dX4_put_45 : decode cX4_put 45 = .ok (.getfield 25, 3) := by decide +kernel
theorem dX4_put_48 : decode cX4_put 48 = .ok (.bipush 10, 2) := by decide +kernel
theorem dX4_put_50 : decode cX4_put 50 = .ok (.imul, 1) := by decide +kernel
theorem dX4_put_51 : decode cX4_put 51 = .ok (.invokevirtual 38, 3) := by decide +kernel
theorem dX4_put_54 : decode cX4_put 54 = .ok (.aload_n 0, 1) := by decide +kernel
theorem dX4_put_55 : decode cX4_put 55 = .ok (.dup, 1) := by decide +kernel
theorem dX4_put_56 : decode cX4_put 56 = .ok (.getfield 25, 3) := by decide +kernel
theorem dX4_put_59 : decode cX4_put 59 = .ok (.iconst 1, 1) := by decide +kernel
theorem dX4_put_60 : decode cX4_put 60 = .ok (.iadd, 1) := by decide +kernel
theorem dX4_put_61 : decode cX4_put 61 = .ok (.putfield 25, 3) := by decide +kernel
theorem dX4_put_64 : decode cX4_put 64 = .ok (.return_, 1) := by decide +kernel
theorem dX4_takeInto_0 : decode cX4_takeInto 0 = .ok (.aload_n 0, 1) := by decide +kernel
theorem dX4_takeInto_1 : decode cX4_takeInto 1 = .ok (.getfield 25, 3) := by decide +kernel
theorem dX4_takeInto_4 : decode cX4_takeInto 4 = .ok (.iconst 1, 1) := by decide +kernel
theorem dX4_takeInto_5 : decode cX4_takeInto 5 = .ok (.if_icmp .ge 5, 3) := by decide +kernel
theorem dX4_takeInto_8 : decode cX4_takeInto 8 = .ok (.iconst 0, 1) := by decide +kernel
theorem dX4_takeInto_9 : decode cX4_takeInto 9 = .ok (.ireturn, 1) := by decide +kernel
theorem dX4_takeInto_10 : decode cX4_takeInto 10 = .ok (.aload_n 0, 1) := by decide +kernel
theorem dX4_takeInto_11 : decode cX4_takeInto 11 = .ok (.dup, 1) := by decide +kernel
theorem dX4_takeInto_12 : decode cX4_takeInto 12 = .ok (.getfield 25, 3) := by decide +kernel
theorem dX4_takeInto_15 : decode cX4_takeInto 15 = .ok (.iconst 1, 1) := by decide +kernel
theorem dX4_takeInto_16 : decode cX4_takeInto 16 = .ok (.isub, 1) := by decide +kernel
theorem dX4_takeInto_17 : decode cX4_takeInto 17 = .ok (.putfield 25, 3) := by decide +kernel
theorem dX4_takeInto_20 : decode cX4_takeInto 20 = .ok (.aload_n 1, 1) := by decide +kernel
theorem dX4_takeInto_21 : decode cX4_takeInto 21 = .ok (.aload_n 0, 1) := by decide +kernel
theorem dX4_takeInto_22 : decode cX4_takeInto 22 = .ok (.getfield 21, 3) := by decide +kernel
theorem dX4_takeInto_25 : decode cX4_takeInto 25 = .ok (.aload_n 0, 1) := by decide +kernel
theorem dX4_takeInto_26 : decode cX4_takeInto 26 = .ok (.getfield 25, 3) := by decide +kernel
theorem dX4_takeInto_29 : decode cX4_takeInto 29 = .ok (.bipush 10, 2) := by decide +kernel
theorem dX4_takeInto_31 : decode cX4_takeInto 31 = .ok (.imul, 1) := by decide +kernel
theorem dX4_takeInto_32 : decode cX4_takeInto 32 = .ok (.invokevirtual 42, 3) := by decide +kernel
theorem dX4_takeInto_35 : decode cX4_takeInto 35 = .ok (.iconst 1, 1) := by decide +kernel
theorem dX4_takeInto_36 : decode cX4_takeInto 36 = .ok (.ireturn, 1) := by decide +kernel
theorem dX5_init_0 : decode cX5_init 0 = .ok (.aload_n 0, 1) := by decide +kernel
theorem dX5_init_1 : decode cX5_init 1 = .ok (.invokespecial 3, 3) := by decide +kernel
theorem dX5_init_4 : decode cX5_init 4 = .ok (.aload_n 0, 1) := by decide +kernel
theorem dX5_init_5 : decode cX5_init 5 = .ok (.sipush 200, 3) := by decide +kernel
theorem dX5_init_8 : decode cX5_init 8 = .ok (.newarray .int, 2) := by decide +kernel
theorem dX5_init_10 : decode cX5_init 10 = .ok (.putfield 9, 3) := by decide +kernel
theorem dX5_init_13 : decode cX5_init 13 = .ok (.aload_n 0, 1) := by decide +kernel
theorem dX5_init_14 : decode cX5_init 14 = .ok (.iconst 5, 1) := by decide +kernel
theorem dX5_init_15 : decode cX5_init 15 = .ok (.newarray .int, 2) := by decide +kernel
theorem dX5_init_17 : decode cX5_init 17 = .ok (.putfield 15, 3) := by decide +kernel
theorem dX5_init_20 : decode cX5_init 20 = .ok (.return_, 1) := by decide +kernel
theorem dX5_length_0 : decode cX5_length 0 = .ok (.aload_n 0, 1) := by decide +kernel
theorem dX5_length_1 : decode cX5_length 1 = .ok (.getfield 18, 3) := by decide +kernel
theorem dX5_length_4 : decode cX5_length 4 = .ok (.ireturn, 1) := by decide +kernel
theorem dX5_clear_0 : decode cX5_clear 0 = .ok (.aload_n 0, 1) := by decide +kernel
theorem dX5_clear_1 : decode cX5_clear 1 = .ok (.iconst 0, 1) := by decide +kernel
theorem dX5_clear_2 : decode cX5_clear 2 = .ok (.putfield 18, 3) := by decide +kernel
theorem dX5_clear_5 : decode cX5_clear 5 = .ok (.return_, 1) := by decide +kernel
theorem dX5_add_0 : decode cX5_add 0 = .ok (.aload_n 0, 1) := by decide +kernel
theorem dX5_add_1 : decode cX5_add 1 = .ok (.getfield 18, 3) := by decide +kernel
theorem dX5_add_4 : decode cX5_add 4 = .ok (.aload_n 0, 1) := by decide +kernel
theorem dX5_add_5 : decode cX5_add 5 = .ok (.getfield 9, 3) := by decide +kernel
theorem dX5_add_8 : decode cX5_add 8 = .ok (.arraylength, 1) := by decide +kernel
theorem dX5_add_9 : decode cX5_add 9 = .ok (.if_icmp .lt 5, 3) := by decide +kernel
theorem dX5_add_12 : decode cX5_add 12 = .ok (.iconst 0, 1) := by decide +kernel
theorem dX5_add_13 : decode cX5_add 13 = .ok (.ireturn, 1) := by decide +kernel
theorem dX5_add_14 : decode cX5_add 14 = .ok (.aload_n 0, 1) := by decide +kernel
theorem dX5_add_15 : decode cX5_add 15 = .ok (.getfield 9, 3) := by decide +kernel
theorem dX5_add_18 : decode cX5_add 18 = .ok (.aload_n 0, 1) := by decide +kernel
theorem dX5_add_19 : decode cX5_add 19 = .ok (.getfield 18, 3) := by decide +kernel
theorem dX5_add_22 : decode cX5_add 22 = .ok (.iload_n 1, 1) := by decide +kernel
theorem dX5_add_23 : decode cX5_add 23 = .ok (.iastore, 1) := by decide +kernel
theorem dX5_add_24 : decode cX5_add 24 = .ok (.aload_n 0, 1) := by decide +kernel
theorem dX5_add_25 : decode cX5_add 25 = .ok (.dup, 1) := by decide +kernel
theorem dX5_add_26 : decode cX5_add 26 = .ok (.getfield 18, 3) := by decide +kernel
theorem dX5_add_29 : decode cX5_add 29 = .ok (.iconst 1, 1) := by decide +kernel
theorem dX5_add_30 : decode cX5_add 30 = .ok (.iadd, 1) := by decide +kernel
theorem dX5_add_31 : decode cX5_add 31 = .ok (.putfield 18, 3) := by decide +kernel
theorem dX5_add_34 : decode cX5_add 34 = .ok (.iconst 1, 1) := by decide +kernel
theorem dX5_add_35 : decode cX5_add 35 = .ok (.ireturn, 1) := by decide +kernel
theorem dX5_readInto_0 : decode cX5_readInto 0 = .ok (.aload_n 1, 1) := by decide +kernel
theorem dX5_readInto_1 : decode cX5_readInto 1 = .ok (.invokevirtual 22, 3) := by decide +kernel
theorem dX5_readInto_4 : decode cX5_readInto 4 = .ok (.iconst 0, 1) := by decide +kernel
theorem dX5_readInto_5 : decode cX5_readInto 5 = .ok (.istore_n 2, 1) := by decide +kernel
theorem dX5_readInto_6 : decode cX5_readInto 6 = .ok (.iconst 0, 1) := by decide +kernel
theorem dX5_readInto_7 : decode cX5_readInto 7 = .ok (.istore_n 3, 1) := by decide +kernel
theorem dX5_readInto_8 : decode cX5_readInto 8 = .ok (.iload_n 3, 1) := by decide +kernel
theorem dX5_readInto_9 : decode cX5_readInto 9 = .ok (.aload_n 0, 1) := by decide +kernel
theorem dX5_readInto_10 : decode cX5_readInto 10 = .ok (.getfield 18, 3) := by decide +kernel
theorem dX5_readInto_13 : decode cX5_readInto 13 = .ok (.if_icmp .ge 36, 3) := by decide +kernel
theorem dX5_readInto_16 : decode cX5_readInto 16 = .ok (.aload_n 0, 1) := by decide +kernel
theorem dX5_readInto_17 : decode cX5_readInto 17 = .ok (.iload_n 3, 1) := by decide +kernel
theorem dX5_readInto_18 : decode cX5_readInto 18 = .ok (.iconst 1, 1) := by decide +kernel
theorem dX5_readInto_19 : decode cX5_readInto 19 = .ok (.iadd, 1) := by decide +kernel
theorem dX5_readInto_20 : decode cX5_readInto 20 = .ok (.invokevirtual 27, 3) := by decide +kernel
theorem dX5_readInto_23 : decode cX5_readInto 23 = .ok (.istore_n 2, 1) := by decide +kernel
theorem dX5_readInto_24 : decode cX5_readInto 24 = .ok (.iload_n 2, 1) := by decide +kernel
theorem dX5_readInto_25 : decode cX5_readInto 25 = .ok (.iload_n 3, 1) := by decide +kernel
theorem dX5_readInto_26 : decode cX5_readInto 26 = .ok (.if_icmp .le 16, 3) := by decide +kernel
theorem dX5_readInto_29 : decode cX5_readInto 29 = .ok (.aload_n 0, 1) := by decide +kernel
theorem dX5_readInto_30 : decode cX5_readInto 30 = .ok (.aload_n 0, 1) := by decide +kernel
theorem dX5_readInto_31 : decode cX5_readInto 31 = .ok (.iload_n 3, 1) := by decide +kernel
theorem dX5_readInto_32 : decode cX5_readInto 32 = .ok (.invokevirtual 31, 3) := by decide +kernel
theorem dX5_readInto_35 : decode cX5_readInto 35 = .ok (.aload_n 1, 1) := by decide +kernel
theorem dX5_readInto_36 : decode cX5_readInto 36 = .ok (.invokevirtual 34, 3) := by decide +kernel
theorem dX5_readInto_39 : decode cX5_readInto 39 = .ok (.ifCond .ne 5, 3) := by decide +kernel
theorem dX5_readInto_42 : decode cX5_readInto 42 = .ok (.iload_n 3, 1) := by decide +kernel
theorem dX5_readInto_43 : decode cX5_readInto 43 = .ok (.ireturn, 1) := by decide +kernel
theorem dX5_readInto_44 : decode cX5_readInto 44 = .ok (.iload_n 2, 1) := by decide +kernel
theorem dX5_readInto_45 : decode cX5_readInto 45 = .ok (.istore_n 3, 1) := by decide +kernel
theorem dX5_readInto_46 : decode cX5_readInto 46 = .ok (.goto (-38), 3) := by decide +kernel
theorem dX5_readInto_49 : decode cX5_readInto 49 = .ok (.bipush (-4), 2) := by decide +kernel
theorem dX5_readInto_51 : decode cX5_readInto 51 = .ok (.ireturn, 1) := by decide +kernel
theorem dX5_letterAt_0 : decode cX5_letterAt 0 = .ok (.iload_n 1, 1) := by decide +kernel
theorem dX5_letterAt_1 : decode cX5_letterAt 1 = .ok (.ifCond .lt 29, 3) := by decide +kernel
theorem dX5_letterAt_4 : decode cX5_letterAt 4 = .ok (.iload_n 1, 1) := by decide +kernel
theorem dX5_letterAt_5 : decode cX5_letterAt 5 = .ok (.aload_n 0, 1) := by decide +kernel
theorem dX5_letterAt_6 : decode cX5_letterAt 6 = .ok (.getfield 18, 3) := by decide +kernel
theorem dX5_letterAt_9 : decode cX5_letterAt 9 = .ok (.if_icmp .ge 21, 3) := by decide +kernel
theorem dX5_letterAt_12 : decode cX5_letterAt 12 = .ok (.iload_n 1, 1) := by decide +kernel
theorem dX5_letterAt_13 : decode cX5_letterAt 13 = .ok (.aload_n 0, 1) := by decide +kernel
theorem dX5_letterAt_14 : decode cX5_letterAt 14 = .ok (.getfield 9, 3) := by decide +kernel
theorem dX5_letterAt_17 : decode cX5_letterAt 17 = .ok (.arraylength, 1) := by decide +kernel
theorem dX5_letterAt_18 : decode cX5_letterAt 18 = .ok (.if_icmp .ge 12, 3) := by decide +kernel
theorem dX5_letterAt_21 : decode cX5_letterAt 21 = .ok (.aload_n 0, 1) := by decide +kernel
theorem dX5_letterAt_22 : decode cX5_letterAt 22 = .ok (.getfield 9, 3) := by decide +kernel
theorem dX5_letterAt_25 : decode cX5_letterAt 25 = .ok (.iload_n 1, 1) := by decide +kernel
theorem dX5_letterAt_26 : decode cX5_letterAt 26 = .ok (.iaload, 1) := by decide +kernel
theorem dX5_letterAt_27 : decode cX5_letterAt 27 = .ok (.goto 4, 3) := by decide +kernel
theorem dX5_letterAt_30 : decode cX5_letterAt 30 = .ok (.iconst 0, 1) := by decide +kernel
theorem dX5_letterAt_31 : decode cX5_letterAt 31 = .ok (.ireturn, 1) := by decide +kernel
theorem dX5_isFigure_0 : decode cX5_isFigure 0 = .ok (.aload_n 0, 1) := by decide +kernel
theorem dX5_isFigure_1 : decode cX5_isFigure 1 = .ok (.iload_n 1, 1) := by decide +kernel
theorem dX5_isFigure_2 : decode cX5_isFigure 2 = .ok (.invokevirtual 31, 3) := by decide +kernel
theorem dX5_isFigure_5 : decode cX5_isFigure 5 = .ok (.bipush 48, 2) := by decide +kernel
theorem dX5_isFigure_7 : decode cX5_isFigure 7 = .ok (.if_icmp .lt 17, 3) := by decide +kernel
theorem dX5_isFigure_10 : decode cX5_isFigure 10 = .ok (.aload_n 0, 1) := by decide +kernel
theorem dX5_isFigure_11 : decode cX5_isFigure 11 = .ok (.iload_n 1, 1) := by decide +kernel
theorem dX5_isFigure_12 : decode cX5_isFigure 12 = .ok (.invokevirtual 31, 3) := by decide +kernel
theorem dX5_isFigure_15 : decode cX5_isFigure 15 = .ok (.bipush 57, 2) := by decide +kernel
theorem dX5_isFigure_17 : decode cX5_isFigure 17 = .ok (.if_icmp .gt 7, 3) := by decide +kernel
theorem dX5_isFigure_20 : decode cX5_isFigure 20 = .ok (.iconst 1, 1) := by decide +kernel
theorem dX5_isFigure_21 : decode cX5_isFigure 21 = .ok (.goto 4, 3) := by decide +kernel
theorem dX5_isFigure_24 : decode cX5_isFigure 24 = .ok (.iconst 0, 1) := by decide +kernel
theorem dX5_isFigure_25 : decode cX5_isFigure 25 = .ok (.ireturn, 1) := by decide +kernel
theorem dX5_readNumbers_0 : decode cX5_readNumbers 0 = .ok (.iload_n 1, 1) := by decide +kernel
theorem dX5_readNumbers_1 : decode cX5_readNumbers 1 = .ok (.istore_n 2, 1) := by decide +kernel
theorem dX5_readNumbers_2 : decode cX5_readNumbers 2 = .ok (.iconst 0, 1) := by decide +kernel
theorem dX5_readNumbers_3 : decode cX5_readNumbers 3 = .ok (.istore_n 3, 1) := by decide +kernel
theorem dX5_readNumbers_4 : decode cX5_readNumbers 4 = .ok (.iload_n 3, 1) := by decide +kernel
theorem dX5_readNumbers_5 : decode cX5_readNumbers 5 = .ok (.aload_n 0, 1) := by decide +kernel
theorem dX5_readNumbers_6 : decode cX5_readNumbers 6 = .ok (.getfield 15, 3) := by decide +kernel
theorem dX5_readNumbers_9 : decode cX5_readNumbers 9 = .ok (.arraylength, 1) := by decide +kernel
theorem dX5_readNumbers_10 : decode cX5_readNumbers 10 = .ok (.if_icmp .ge 109, 3) := by decide +kernel
theorem dX5_readNumbers_13 : decode cX5_readNumbers 13 = .ok (.aload_n 0, 1) := by decide +kernel
theorem dX5_readNumbers_14 : decode cX5_readNumbers 14 = .ok (.iload_n 2, 1) := by decide +kernel
theorem dX5_readNumbers_15 : decode cX5_readNumbers 15 = .ok (.invokevirtual 38, 3) := by decide +kernel
theorem dX5_readNumbers_18 : decode cX5_readNumbers 18 = .ok (.ifCond .ne 6, 3) := by decide +kernel
theorem dX5_readNumbers_21 : decode cX5_readNumbers 21 = .ok (.bipush (-4), 2) := by decide +kernel
theorem dX5_readNumbers_23 : decode cX5_readNumbers 23 = .ok (.ireturn, 1) := by decide +kernel
theorem dX5_readNumbers_24 : decode cX5_readNumbers 24 = .ok (.aload_n 0, 1) := by decide +kernel
theorem dX5_readNumbers_25 : decode cX5_readNumbers 25 = .ok (.getfield 15, 3) := by decide +kernel
theorem dX5_readNumbers_28 : decode cX5_readNumbers 28 = .ok (.iload_n 3, 1) := by decide +kernel
theorem dX5_readNumbers_29 : decode cX5_readNumbers 29 = .ok (.aload_n 0, 1) := by decide +kernel
theorem dX5_readNumbers_30 : decode cX5_readNumbers 30 = .ok (.iload_n 2, 1) := by decide +kernel
theorem dX5_readNumbers_31 : decode cX5_readNumbers 31 = .ok (.invokevirtual 31, 3) := by decide +kernel
theorem dX5_readNumbers_34 : decode cX5_readNumbers 34 = .ok (.bipush 48, 2) := by decide +kernel
theorem dX5_readNumbers_36 : decode cX5_readNumbers 36 = .ok (.isub, 1) := by decide +kernel
theorem dX5_readNumbers_37 : decode cX5_readNumbers 37 = .ok (.iastore, 1) := by decide +kernel
theorem dX5_readNumbers_38 : decode cX5_readNumbers 38 = .ok (.iinc 2 1, 3) := by decide +kernel
theorem dX5_readNumbers_41 : decode cX5_readNumbers 41 = .ok (.aload_n 0, 1) := by decide +kernel
theorem dX5_readNumbers_42 : decode cX5_readNumbers 42 = .ok (.iload_n 2, 1) := by decide +kernel
theorem dX5_readNumbers_43 : decode cX5_readNumbers 43 = .ok (.invokevirtual 38, 3) := by decide +kernel
theorem dX5_readNumbers_46 : decode cX5_readNumbers 46 = .ok (.ifCond .eq 30, 3) := by decide +kernel
theorem dX5_readNumbers_49 : decode cX5_readNumbers 49 = .ok (.aload_n 0, 1) := by decide +kernel
theorem dX5_readNumbers_50 : decode cX5_readNumbers 50 = .ok (.getfield 15, 3) := by decide +kernel
theorem dX5_readNumbers_53 : decode cX5_readNumbers 53 = .ok (.iload_n 3, 1) := by decide +kernel
theorem dX5_readNumbers_54 : decode cX5_readNumbers 54 = .ok (.aload_n 0, 1) := by decide +kernel
theorem dX5_readNumbers_55 : decode cX5_readNumbers 55 = .ok (.getfield 15, 3) := by decide +kernel
theorem dX5_readNumbers_58 : decode cX5_readNumbers 58 = .ok (.iload_n 3, 1) := by decide +kernel
theorem dX5_readNumbers_59 : decode cX5_readNumbers 59 = .ok (.iaload, 1) := by decide +kernel
theorem dX5_readNumbers_60 : decode cX5_readNumbers 60 = .ok (.bipush 10, 2) := by decide +kernel
theorem dX5_readNumbers_62 : decode cX5_readNumbers 62 = .ok (.imul, 1) := by decide +kernel
theorem dX5_readNumbers_63 : decode cX5_readNumbers 63 = .ok (.aload_n 0, 1) := by decide +kernel
theorem dX5_readNumbers_64 : decode cX5_readNumbers 64 = .ok (.iload_n 2, 1) := by decide +kernel
theorem dX5_readNumbers_65 : decode cX5_readNumbers 65 = .ok (.invokevirtual 31, 3) := by decide +kernel
theorem dX5_readNumbers_68 : decode cX5_readNumbers 68 = .ok (.iadd, 1) := by decide +kernel
theorem dX5_readNumbers_69 : decode cX5_readNumbers 69 = .ok (.bipush 48, 2) := by decide +kernel
theorem dX5_readNumbers_71 : decode cX5_readNumbers 71 = .ok (.isub, 1) := by decide +kernel
theorem dX5_readNumbers_72 : decode cX5_readNumbers 72 = .ok (.iastore, 1) := by decide +kernel
theorem dX5_readNumbers_73 : decode cX5_readNumbers 73 = .ok (.iinc 2 1, 3) := by decide +kernel
theorem dX5_readNumbers_76 : decode cX5_readNumbers 76 = .ok (.aload_n 0, 1) := by decide +kernel
theorem dX5_readNumbers_77 : decode cX5_readNumbers 77 = .ok (.iload_n 3, 1) := by decide +kernel
theorem dX5_readNumbers_78 : decode cX5_readNumbers 78 = .ok (.iconst 1, 1) := by decide +kernel
theorem dX5_readNumbers_79 : decode cX5_readNumbers 79 = .ok (.iadd, 1) := by decide +kernel
theorem dX5_readNumbers_80 : decode cX5_readNumbers 80 = .ok (.putfield 42, 3) := by decide +kernel
theorem dX5_readNumbers_83 : decode cX5_readNumbers 83 = .ok (.aload_n 0, 1) := by decide +kernel
theorem dX5_readNumbers_84 : decode cX5_readNumbers 84 = .ok (.iload_n 2, 1) := by decide +kernel
theorem dX5_readNumbers_85 : decode cX5_readNumbers 85 = .ok (.invokevirtual 31, 3) := by decide +kernel
theorem dX5_readNumbers_88 : decode cX5_readNumbers 88 = .ok (.bipush 59, 2) := by decide +kernel
theorem dX5_readNumbers_90 : decode cX5_readNumbers 90 = .ok (.if_icmp .ne 7, 3) := by decide +kernel
theorem dX5_readNumbers_93 : decode cX5_readNumbers 93 = .ok (.iload_n 2, 1) := by decide +kernel
theorem dX5_readNumbers_94 : decode cX5_readNumbers 94 = .ok (.iconst 1, 1) := by decide +kernel
theorem dX5_readNumbers_95 : decode cX5_readNumbers 95 = .ok (.iadd, 1) := by decide +kernel
theorem dX5_readNumbers_96 : decode cX5_readNumbers 96 = .ok (.ireturn, 1) := by decide +kernel
theorem dX5_readNumbers_97 : decode cX5_readNumbers 97 = .ok (.aload_n 0, 1) := by decide +kernel
theorem dX5_readNumbers_98 : decode cX5_readNumbers 98 = .ok (.iload_n 2, 1) := by decide +kernel
theorem dX5_readNumbers_99 : decode cX5_readNumbers 99 = .ok (.invokevirtual 31, 3) := by decide +kernel
theorem dX5_readNumbers_102 : decode cX5_readNumbers 102 = .ok (.bipush 44, 2) := by decide +kernel
theorem dX5_readNumbers_104 : decode cX5_readNumbers 104 = .ok (.if_icmp .eq 6, 3) := by decide +kernel
theorem dX5_readNumbers_107 : decode cX5_readNumbers 107 = .ok (.bipush (-4), 2) := by decide +kernel
theorem dX5_readNumbers_109 : decode cX5_readNumbers 109 = .ok (.ireturn, 1) := by decide +kernel
theorem dX5_readNumbers_110 : decode cX5_readNumbers 110 = .ok (.iinc 2 1, 3) := by decide +kernel
theorem dX5_readNumbers_113 : decode cX5_readNumbers 113 = .ok (.iinc 3 1, 3) := by decide +kernel
theorem dX5_readNumbers_116 : decode cX5_readNumbers 116 = .ok (.goto (-112), 3) := by decide +kernel
theorem dX5_readNumbers_119 : decode cX5_readNumbers 119 = .ok (.bipush (-4), 2) := by decide +kernel
theorem dX5_readNumbers_121 : decode cX5_readNumbers 121 = .ok (.ireturn, 1) := by decide +kernel
theorem dX5_tell_0 : decode cX5_tell 0 = .ok (.iload_n 1, 1) := by decide +kernel
theorem dX5_tell_1 : decode cX5_tell 1 = .ok (.bipush 103, 2) := by decide +kernel
theorem dX5_tell_3 : decode cX5_tell 3 = .ok (.if_icmp .ne 32, 3) := by decide +kernel
theorem dX5_tell_6 : decode cX5_tell 6 = .ok (.aload_n 0, 1) := by decide +kernel
theorem dX5_tell_7 : decode cX5_tell 7 = .ok (.getfield 42, 3) := by decide +kernel
theorem dX5_tell_10 : decode cX5_tell 10 = .ok (.aload_n 0, 1) := by decide +kernel
theorem dX5_tell_11 : decode cX5_tell 11 = .ok (.getfield 15, 3) := by decide +kernel
theorem dX5_tell_14 : decode cX5_tell 14 = .ok (.arraylength, 1) := by decide +kernel
theorem dX5_tell_15 : decode cX5_tell 15 = .ok (.if_icmp .ne 18, 3) := by decide +kernel
theorem dX5_tell_18 : decode cX5_tell 18 = .ok (.aload_n 2, 1) := by decide +kernel
theorem dX5_tell_19 : decode cX5_tell 19 = .ok (.aload_n 0, 1) := by decide +kernel
theorem dX5_tell_20 : decode cX5_tell 20 = .ok (.getfield 15, 3) := by decide +kernel
theorem dX5_tell_23 : decode cX5_tell 23 = .ok (.invokevirtual 45, 3) := by decide +kernel
theorem dX5_tell_26 : decode cX5_tell 26 = .ok (.ifCond .eq 7, 3) := by decide +kernel
theorem dX5_tell_29 : decode cX5_tell 29 = .ok (.iconst 1, 1) := by decide +kernel
theorem dX5_tell_30 : decode cX5_tell 30 = .ok (.goto 4, 3) := by decide +kernel
theorem dX5_tell_33 : decode cX5_tell 33 = .ok (.iconst 0, 1) := by decide +kernel
theorem dX5_tell_34 : decode cX5_tell 34 = .ok (.ireturn, 1) := by decide +kernel
theorem dX5_tell_35 : decode cX5_tell 35 = .ok (.aload_n 0, 1) := by decide +kernel
theorem dX5_tell_36 : decode cX5_tell 36 = .ok (.getfield 42, 3) := by decide +kernel
theorem dX5_tell_39 : decode cX5_tell 39 = .ok (.iconst 1, 1) := by decide +kernel
theorem dX5_tell_40 : decode cX5_tell 40 = .ok (.if_icmp .eq 5, 3) := by decide +kernel
theorem dX5_tell_43 : decode cX5_tell 43 = .ok (.iconst 0, 1) := by decide +kernel
theorem dX5_tell_44 : decode cX5_tell 44 = .ok (.ireturn, 1) := by decide +kernel
theorem dX5_tell_45 : decode cX5_tell 45 = .ok (.iload_n 1, 1) := by decide +kernel
theorem dX5_tell_46 : decode cX5_tell 46 = .ok (.lookupswitch 86 #[(99, 64), (110, 42), (114, 75), (119, 53)], 42) := by decide +kernel
theorem dX5_tell_88 : decode cX5_tell 88 = .ok (.aload_n 2, 1) := by decide +kernel
theorem dX5_tell_89 : decode cX5_tell 89 = .ok (.aload_n 0, 1) := by decide +kernel
theorem dX5_tell_90 : decode cX5_tell 90 = .ok (.getfield 15, 3) := by decide +kernel
theorem dX5_tell_93 : decode cX5_tell 93 = .ok (.iconst 0, 1) := by decide +kernel
theorem dX5_tell_94 : decode cX5_tell 94 = .ok (.iaload, 1) := by decide +kernel
theorem dX5_tell_95 : decode cX5_tell 95 = .ok (.invokevirtual 49, 3) := by decide +kernel
theorem dX5_tell_98 : decode cX5_tell 98 = .ok (.ireturn, 1) := by decide +kernel
theorem dX5_tell_99 : decode cX5_tell 99 = .ok (.aload_n 2, 1) := by decide +kernel
theorem dX5_tell_100 : decode cX5_tell 100 = .ok (.aload_n 0, 1) := by decide +kernel
theorem dX5_tell_101 : decode cX5_tell 101 = .ok (.getfield 15, 3) := by decide +kernel
theorem dX5_tell_104 : decode cX5_tell 104 = .ok (.iconst 0, 1) := by decide +kernel
theorem dX5_tell_105 : decode cX5_tell 105 = .ok (.iaload, 1) := by decide +kernel
theorem dX5_tell_106 : decode cX5_tell 106 = .ok (.invokevirtual 52, 3) := by decide +kernel
theorem dX5_tell_109 : decode cX5_tell 109 = .ok (.ireturn, 1) := by decide +kernel
theorem dX5_tell_110 : decode cX5_tell 110 = .ok (.aload_n 2, 1) := by decide +kernel
theorem dX5_tell_111 : decode cX5_tell 111 = .ok (.aload_n 0, 1) := by decide +kernel
theorem dX5_tell_112 : decode cX5_tell 112 = .ok (.getfield 15, 3) := by decide +kernel
theorem dX5_tell_115 : decode cX5_tell 115 = .ok (.iconst 0, 1) := by decide +kernel
theorem dX5_tell_116 : decode cX5_tell 116 = .ok (.iaload, 1) := by decide +kernel
theorem dX5_tell_117 : decode cX5_tell 117 = .ok (.invokevirtual 55, 3) := by decide +kernel
theorem dX5_tell_120 : decode cX5_tell 120 = .ok (.ireturn, 1) := by decide +kernel
theorem dX5_tell_121 : decode cX5_tell 121 = .ok (.aload_n 2, 1) := by decide +kernel
theorem dX5_tell_122 : decode cX5_tell 122 = .ok (.aload_n 0, 1) := by decide +kernel
theorem dX5_tell_123 : decode cX5_tell 123 = .ok (.getfield 15, 3) := by decide +kernel
theorem dX5_tell_126 : decode cX5_tell 126 = .ok (.iconst 0, 1) := by decide +kernel
theorem dX5_tell_127 : decode cX5_tell 127 = .ok (.iaload, 1) := by decide +kernel
theorem dX5_tell_128 : decode cX5_tell 128 = .ok (.invokevirtual 58, 3) := by decide +kernel
theorem dX5_tell_131 : decode cX5_tell 131 = .ok (.ireturn, 1) := by decide +kernel
theorem dX5_tell_132 : decode cX5_tell 132 = .ok (.iconst 0, 1) := by decide +kernel
theorem dX5_tell_133 : decode cX5_tell 133 = .ok (.ireturn, 1) := by decide +kernel
theorem dX6_init_0 : decode cX6_init 0 = .ok (.aload_n 0, 1) := by decide +kernel
theorem dX6_init_1 : decode cX6_init 1 = .ok (.invokespecial 3, 3) := by decide +kernel
theorem dX6_init_4 : decode cX6_init 4 = .ok (.return_, 1) := by decide +kernel
theorem dX6_fit_0 : decode cX6_fit 0 = .ok (.aload_n 0, 1) := by decide +kernel
theorem dX6_fit_1 : decode cX6_fit 1 = .ok (.iload_n 1, 1) := by decide +kernel
theorem dX6_fit_2 : decode cX6_fit 2 = .ok (.putfield 9, 3) := by decide +kernel
theorem dX6_fit_5 : decode cX6_fit 5 = .ok (.aload_n 0, 1) := by decide +kernel
theorem dX6_fit_6 : decode cX6_fit 6 = .ok (.iconst 5, 1) := by decide +kernel
theorem dX6_fit_7 : decode cX6_fit 7 = .ok (.iload_n 2, 1) := by decide +kernel
theorem dX6_fit_8 : decode cX6_fit 8 = .ok (.invokestatic 15, 3) := by decide +kernel
theorem dX6_fit_11 : decode cX6_fit 11 = .ok (.putfield 21, 3) := by decide +kernel
theorem dX6_fit_14 : decode cX6_fit 14 = .ok (.aload_n 0, 1) := by decide +kernel
theorem dX6_fit_15 : decode cX6_fit 15 = .ok (.iconst 1, 1) := by decide +kernel
theorem dX6_fit_16 : decode cX6_fit 16 = .ok (.putfield 24, 3) := by decide +kernel
theorem dX6_fit_19 : decode cX6_fit 19 = .ok (.iconst 0, 1) := by decide +kernel
theorem dX6_fit_20 : decode cX6_fit 20 = .ok (.istore_n 3, 1) := by decide +kernel
theorem dX6_fit_21 : decode cX6_fit 21 = .ok (.iload_n 3, 1) := by decide +kernel
theorem dX6_fit_22 : decode cX6_fit 22 = .ok (.aload_n 0, 1) := by decide +kernel
theorem dX6_fit_23 : decode cX6_fit 23 = .ok (.getfield 21, 3) := by decide +kernel
theorem dX6_fit_26 : decode cX6_fit 26 = .ok (.if_icmp .ge 24, 3) := by decide +kernel
theorem dX6_fit_29 : decode cX6_fit 29 = .ok (.aload_n 0, 1) := by decide +kernel
theorem dX6_fit_30 : decode cX6_fit 30 = .ok (.dup, 1) := by decide +kernel
theorem dX6_fit_31 : decode cX6_fit 31 = .ok (.getfield 24, 3) := by decide +kernel
theorem dX6_fit_34 : decode cX6_fit 34 = .ok (.aload_n 0, 1) := by decide +kernel
theorem dX6_fit_35 : decode cX6_fit 35 = .ok (.getfield 9, 3) := by decide +kernel
theorem dX6_fit_38 : decode cX6_fit 38 = .ok (.iload_n 3, 1) := by decide +kernel
theorem dX6_fit_39 : decode cX6_fit 39 = .ok (.isub, 1) := by decide +kernel
theorem dX6_fit_40 : decode cX6_fit 40 = .ok (.imul, 1) := by decide +kernel
theorem dX6_fit_41 : decode cX6_fit 41 = .ok (.putfield 24, 3) := by decide +kernel
theorem dX6_fit_44 : decode cX6_fit 44 = .ok (.iinc 3 1, 3) := by decide +kernel
theorem dX6_fit_47 : decode cX6_fit 47 = .ok (.goto (-26), 3) := by decide +kernel
theorem dX6_fit_50 : decode cX6_fit 50 = .ok (.aload_n 0, 1) := by decide +kernel
theorem dX6_fit_51 : decode cX6_fit 51 = .ok (.sipush 720, 3) := by decide +kernel
theorem dX6_fit_54 : decode cX6_fit 54 = .ok (.aload_n 0, 1) := by decide +kernel
theorem dX6_fit_55 : decode cX6_fit 55 = .ok (.getfield 24, 3) := by decide +kernel
theorem dX6_fit_58 : decode cX6_fit 58 = .ok (.invokestatic 15, 3) := by decide +kernel
theorem dX6_fit_61 : decode cX6_fit 61 = .ok (.putfield 24, 3) := by decide +kernel
theorem dX6_fit_64 : decode cX6_fit 64 = .ok (.return_, 1) := by decide +kernel
theorem dX6_total_0 : decode cX6_total 0 = .ok (.aload_n 0, 1) := by decide +kernel
theorem dX6_total_1 : decode cX6_total 1 = .ok (.getfield 24, 3) := by decide +kernel
theorem dX6_total_4 : decode cX6_total 4 = .ok (.ireturn, 1) := by decide +kernel
theorem dX6_numberOf_0 : decode cX6_numberOf 0 = .ok (.iconst 0, 1) := by decide +kernel
theorem dX6_numberOf_1 : decode cX6_numberOf 1 = .ok (.istore_n 2, 1) := by decide +kernel
theorem dX6_numberOf_2 : decode cX6_numberOf 2 = .ok (.iconst 0, 1) := by decide +kernel
theorem dX6_numberOf_3 : decode cX6_numberOf 3 = .ok (.istore_n 3, 1) := by decide +kernel
theorem dX6_numberOf_4 : decode cX6_numberOf 4 = .ok (.iload_n 3, 1) := by decide +kernel
theorem dX6_numberOf_5 : decode cX6_numberOf 5 = .ok (.aload_n 0, 1) := by decide +kernel
theorem dX6_numberOf_6 : decode cX6_numberOf 6 = .ok (.getfield 21, 3) := by decide +kernel
theorem dX6_numberOf_9 : decode cX6_numberOf 9 = .ok (.if_icmp .ge 60, 3) := by decide +kernel
theorem dX6_numberOf_12 : decode cX6_numberOf 12 = .ok (.iload_n 3, 1) := by decide +kernel
theorem dX6_numberOf_13 : decode cX6_numberOf 13 = .ok (.aload_n 1, 1) := by decide +kernel
theorem dX6_numberOf_14 : decode cX6_numberOf 14 = .ok (.arraylength, 1) := by decide +kernel
theorem dX6_numberOf_15 : decode cX6_numberOf 15 = .ok (.if_icmp .ge 54, 3) := by decide +kernel
theorem dX6_numberOf_18 : decode cX6_numberOf 18 = .ok (.aload_n 1, 1) := by decide +kernel
theorem dX6_numberOf_19 : decode cX6_numberOf 19 = .ok (.iload_n 3, 1) := by decide +kernel
theorem dX6_numberOf_20 : decode cX6_numberOf 20 = .ok (.iaload, 1) := by decide +kernel
theorem dX6_numberOf_21 : decode cX6_numberOf 21 = .ok (.istore 4, 2) := by decide +kernel
theorem dX6_numberOf_23 : decode cX6_numberOf 23 = .ok (.iconst 0, 1) := by decide +kernel
theorem dX6_numberOf_24 : decode cX6_numberOf 24 = .ok (.istore 5, 2) := by decide +kernel
theorem dX6_numberOf_26 : decode cX6_numberOf 26 = .ok (.iload 5, 2) := by decide +kernel
theorem dX6_numberOf_28 : decode cX6_numberOf 28 = .ok (.iload_n 3, 1) := by decide +kernel
theorem dX6_numberOf_29 : decode cX6_numberOf 29 = .ok (.if_icmp .ge 22, 3) := by decide +kernel
theorem dX6_numberOf_32 : decode cX6_numberOf 32 = .ok (.aload_n 1, 1) := by decide +kernel
theorem dX6_numberOf_33 : decode cX6_numberOf 33 = .ok (.iload 5, 2) := by decide +kernel
theorem dX6_numberOf_35 : decode cX6_numberOf 35 = .ok (.iaload, 1) := by decide +kernel
theorem dX6_numberOf_36 : decode cX6_numberOf 36 = .ok (.aload_n 1, 1) := by decide +kernel
theorem dX6_numberOf_37 : decode cX6_numberOf 37 = .ok (.iload_n 3, 1) := by decide +kernel
theorem dX6_numberOf_38 : decode cX6_numberOf 38 = .ok (.iaload, 1) := by decide +kernel
theorem dX6_numberOf_39 : decode cX6_numberOf 39 = .ok (.if_icmp .ge 6, 3) := by decide +kernel
theorem dX6_numberOf_42 : decode cX6_numberOf 42 = .ok (.iinc 4 (-1), 3) := by decide +kernel
theorem dX6_numberOf_45 : decode cX6_numberOf 45 = .ok (.iinc 5 1, 3) := by decide +kernel
theorem dX6_numberOf_48 : decode cX6_numberOf 48 = .ok (.goto (-22), 3) := by decide +kernel
theorem dX6_numberOf_51 : decode cX6_numberOf 51 = .ok (.iload_n 2, 1) := by decide +kernel
theorem dX6_numberOf_52 : decode cX6_numberOf 52 = .ok (.aload_n 0, 1) := by decide +kernel
theorem dX6_numberOf_53 : decode cX6_numberOf 53 = .ok (.getfield 9, 3) := by decide +kernel
theorem dX6_numberOf_56 : decode cX6_numberOf 56 = .ok (.iload_n 3, 1) := by decide +kernel
theorem dX6_numberOf_57 : decode cX6_numberOf 57 = .ok (.isub, 1) := by decide +kernel
theorem dX6_numberOf_58 : decode cX6_numberOf 58 = .ok (.imul, 1) := by decide +kernel
theorem dX6_numberOf_59 : decode cX6_numberOf 59 = .ok (.iload 4, 2) := by decide +kernel
theorem dX6_numberOf_61 : decode cX6_numberOf 61 = .ok (.iadd, 1) := by decide +kernel
theorem dX6_numberOf_62 : decode cX6_numberOf 62 = .ok (.istore_n 2, 1) := by decide +kernel
theorem dX6_numberOf_63 : decode cX6_numberOf 63 = .ok (.iinc 3 1, 3) := by decide +kernel
theorem dX6_numberOf_66 : decode cX6_numberOf 66 = .ok (.goto (-62), 3) := by decide +kernel
theorem dX6_numberOf_69 : decode cX6_numberOf 69 = .ok (.iload_n 2, 1) := by decide +kernel
theorem dX6_numberOf_70 : decode cX6_numberOf 70 = .ok (.ireturn, 1) := by decide +kernel
theorem dX6_spread_0 : decode cX6_spread 0 = .ok (.aload_n 0, 1) := by decide +kernel
theorem dX6_spread_1 : decode cX6_spread 1 = .ok (.getfield 24, 3) := by decide +kernel
theorem dX6_spread_4 : decode cX6_spread 4 = .ok (.istore_n 3, 1) := by decide +kernel
theorem dX6_spread_5 : decode cX6_spread 5 = .ok (.iload_n 1, 1) := by decide +kernel
theorem dX6_spread_6 : decode cX6_spread 6 = .ok (.istore 4, 2) := by decide +kernel
theorem dX6_spread_8 : decode cX6_spread 8 = .ok (.iconst 0, 1) := by decide +kernel
theorem dX6_spread_9 : decode cX6_spread 9 = .ok (.istore 5, 2) := by decide +kernel
theorem dX6_spread_11 : decode cX6_spread 11 = .ok (.iconst 0, 1) := by decide +kernel
theorem dX6_spread_12 : decode cX6_spread 12 = .ok (.istore 6, 2) := by decide +kernel
theorem dX6_spread_14 : decode cX6_spread 14 = .ok (.iload 6, 2) := by decide +kernel
theorem dX6_spread_16 : decode cX6_spread 16 = .ok (.aload_n 0, 1) := by decide +kernel
theorem dX6_spread_17 : decode cX6_spread 17 = .ok (.getfield 21, 3) := by decide +kernel
theorem dX6_spread_20 : decode cX6_spread 20 = .ok (.if_icmp .ge 74, 3) := by decide +kernel
theorem dX6_spread_23 : decode cX6_spread 23 = .ok (.iload 6, 2) := by decide +kernel
theorem dX6_spread_25 : decode cX6_spread 25 = .ok (.aload_n 2, 1) := by decide +kernel
theorem dX6_spread_26 : decode cX6_spread 26 = .ok (.arraylength, 1) := by decide +kernel
theorem dX6_spread_27 : decode cX6_spread 27 = .ok (.if_icmp .ge 67, 3) := by decide +kernel
theorem dX6_spread_30 : decode cX6_spread 30 = .ok (.aload_n 0, 1) := by decide +kernel
theorem dX6_spread_31 : decode cX6_spread 31 = .ok (.getfield 9, 3) := by decide +kernel
theorem dX6_spread_34 : decode cX6_spread 34 = .ok (.iload 6, 2) := by decide +kernel
theorem dX6_spread_36 : decode cX6_spread 36 = .ok (.isub, 1) := by decide +kernel
theorem dX6_spread_37 : decode cX6_spread 37 = .ok (.istore 7, 2) := by decide +kernel
theorem dX6_spread_39 : decode cX6_spread 39 = .ok (.iload 7, 2) := by decide +kernel
theorem dX6_spread_41 : decode cX6_spread 41 = .ok (.iconst 1, 1) := by decide +kernel
theorem dX6_spread_42 : decode cX6_spread 42 = .ok (.if_icmp .lt 9, 3) := by decide +kernel
theorem dX6_spread_45 : decode cX6_spread 45 = .ok (.iload_n 3, 1) := by decide +kernel
theorem dX6_spread_46 : decode cX6_spread 46 = .ok (.iload 7, 2) := by decide +kernel
theorem dX6_spread_48 : decode cX6_spread 48 = .ok (.if_icmp .ge 4, 3) := by decide +kernel
theorem dX6_spread_51 : decode cX6_spread 51 = .ok (.return_, 1) := by decide +kernel
theorem dX6_spread_52 : decode cX6_spread 52 = .ok (.iload_n 3, 1) := by decide +kernel
theorem dX6_spread_53 : decode cX6_spread 53 = .ok (.iload 7, 2) := by decide +kernel
theorem dX6_spread_55 : decode cX6_spread 55 = .ok (.idiv, 1) := by decide +kernel
theorem dX6_spread_56 : decode cX6_spread 56 = .ok (.istore_n 3, 1) := by decide +kernel
theorem dX6_spread_57 : decode cX6_spread 57 = .ok (.aload_n 2, 1) := by decide +kernel
theorem dX6_spread_58 : decode cX6_spread 58 = .ok (.iload 6, 2) := by decide +kernel
theorem dX6_spread_60 : decode cX6_spread 60 = .ok (.aload_n 0, 1) := by decide +kernel
theorem dX6_spread_61 : decode cX6_spread 61 = .ok (.iload 5, 2) := by decide +kernel
theorem dX6_spread_63 : decode cX6_spread 63 = .ok (.iload 4, 2) := by decide +kernel
theorem dX6_spread_65 : decode cX6_spread 65 = .ok (.iload_n 3, 1) := by decide +kernel
theorem dX6_spread_66 : decode cX6_spread 66 = .ok (.idiv, 1) := by decide +kernel
theorem dX6_spread_67 : decode cX6_spread 67 = .ok (.invokevirtual 27, 3) := by decide +kernel
theorem dX6_spread_70 : decode cX6_spread 70 = .ok (.iastore, 1) := by decide +kernel
theorem dX6_spread_71 : decode cX6_spread 71 = .ok (.iload 5, 2) := by decide +kernel
theorem dX6_spread_73 : decode cX6_spread 73 = .ok (.iconst 1, 1) := by decide +kernel
theorem dX6_spread_74 : decode cX6_spread 74 = .ok (.aload_n 2, 1) := by decide +kernel
theorem dX6_spread_75 : decode cX6_spread 75 = .ok (.iload 6, 2) := by decide +kernel
theorem dX6_spread_77 : decode cX6_spread 77 = .ok (.iaload, 1) := by decide +kernel
theorem dX6_spread_78 : decode cX6_spread 78 = .ok (.ishl, 1) := by decide +kernel
theorem dX6_spread_79 : decode cX6_spread 79 = .ok (.ior, 1) := by decide +kernel
theorem dX6_spread_80 : decode cX6_spread 80 = .ok (.istore 5, 2) := by decide +kernel
theorem dX6_spread_82 : decode cX6_spread 82 = .ok (.iload 4, 2) := by decide +kernel
theorem dX6_spread_84 : decode cX6_spread 84 = .ok (.iload_n 3, 1) := by decide +kernel
theorem dX6_spread_85 : decode cX6_spread 85 = .ok (.irem, 1) := by decide +kernel
theorem dX6_spread_86 : decode cX6_spread 86 = .ok (.istore 4, 2) := by decide +kernel
theorem dX6_spread_88 : decode cX6_spread 88 = .ok (.iinc 6 1, 3) := by decide +kernel
theorem dX6_spread_91 : decode cX6_spread 91 = .ok (.goto (-77), 3) := by decide +kernel
theorem dX6_spread_94 : decode cX6_spread 94 = .ok (.return_, 1) := by decide +kernel
theorem dX6_freeBed_0 : decode cX6_freeBed 0 = .ok (.iload_n 2, 1) := by decide +kernel
theorem dX6_freeBed_1 : decode cX6_freeBed 1 = .ok (.istore_n 3, 1) := by decide +kernel
theorem dX6_freeBed_2 : decode cX6_freeBed 2 = .ok (.iconst 0, 1) := by decide +kernel
theorem dX6_freeBed_3 : decode cX6_freeBed 3 = .ok (.istore 4, 2) := by decide +kernel
theorem dX6_freeBed_5 : decode cX6_freeBed 5 = .ok (.iload 4, 2) := by decide +kernel
theorem dX6_freeBed_7 : decode cX6_freeBed 7 = .ok (.aload_n 0, 1) := by decide +kernel
theorem dX6_freeBed_8 : decode cX6_freeBed 8 = .ok (.getfield 9, 3) := by decide +kernel
theorem dX6_freeBed_11 : decode cX6_freeBed 11 = .ok (.if_icmp .ge 28, 3) := by decide +kernel
theorem dX6_freeBed_14 : decode cX6_freeBed 14 = .ok (.iload_n 1, 1) := by decide +kernel
theorem dX6_freeBed_15 : decode cX6_freeBed 15 = .ok (.iload 4, 2) := by decide +kernel
theorem dX6_freeBed_17 : decode cX6_freeBed 17 = .ok (.ishr, 1) := by decide +kernel
theorem dX6_freeBed_18 : decode cX6_freeBed 18 = .ok (.iconst 1, 1) := by decide +kernel
theorem dX6_freeBed_19 : decode cX6_freeBed 19 = .ok (.iand, 1) := by decide +kernel
theorem dX6_freeBed_20 : decode cX6_freeBed 20 = .ok (.ifCond .ne 13, 3) := by decide +kernel
theorem dX6_freeBed_23 : decode cX6_freeBed 23 = .ok (.iload_n 3, 1) := by decide +kernel
theorem dX6_freeBed_24 : decode cX6_freeBed 24 = .ok (.ifCond .ne 6, 3) := by decide +kernel
theorem dX6_freeBed_27 : decode cX6_freeBed 27 = .ok (.iload 4, 2) := by decide +kernel
theorem dX6_freeBed_29 : decode cX6_freeBed 29 = .ok (.ireturn, 1) := by decide +kernel
theorem dX6_freeBed_30 : decode cX6_freeBed 30 = .ok (.iinc 3 (-1), 3) := by decide +kernel
theorem dX6_freeBed_33 : decode cX6_freeBed 33 = .ok (.iinc 4 1, 3) := by decide +kernel
theorem dX6_freeBed_36 : decode cX6_freeBed 36 = .ok (.goto (-31), 3) := by decide +kernel
theorem dX6_freeBed_39 : decode cX6_freeBed 39 = .ok (.iconst 0, 1) := by decide +kernel
theorem dX6_freeBed_40 : decode cX6_freeBed 40 = .ok (.ireturn, 1) := by decide +kernel
