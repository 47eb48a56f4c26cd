theorem dX0_init_0 : decode cX0_init 0 = .ok (.aload_n 0, 1) := by decide +kernel
theorem dX0_init_1 : decode cX0_init 1 = .ok (.invokespecial 3, 3) := by decide +kernel
theorem dX0_init_4 : decode cX0_init 4 = .ok (.aload_n 0, 1) := by decide +kernel
theorem dX0_init_5 : decode cX0_init 5 = .ok (.iconst 5, 1) := by decide +kernel
theorem dX0_init_6 : decode cX0_init 6 = .ok (.newarray .int, 2) := by decide +kernel
theorem dX0_init_8 : decode cX0_init 8 = .ok (.putfield 9, 3) := by decide +kernel
theorem dX0_init_11 : decode cX0_init 11 = .ok (.aload_n 0, 1) := by decide +kernel
theorem dX0_init_12 : decode cX0_init 12 = .ok (.iconst 5, 1) := by decide +kernel
theorem dX0_init_13 : decode cX0_init 13 = .ok (.newarray .int, 2) := by decide +kernel
theorem dX0_init_15 : decode cX0_init 15 = .ok (.putfield 15, 3) := by decide +kernel
theorem dX0_init_18 : decode cX0_init 18 = .ok (.aload_n 0, 1) := by decide +kernel
theorem dX0_init_19 : decode cX0_init 19 = .ok (.iconst 5, 1) := by decide +kernel
theorem dX0_init_20 : decode cX0_init 20 = .ok (.newarray .int, 2) := by decide +kernel
theorem dX0_init_22 : decode cX0_init 22 = .ok (.putfield 18, 3) := by decide +kernel
theorem dX0_init_25 : decode cX0_init 25 = .ok (.aload_n 0, 1) := by decide +kernel
theorem dX0_init_26 : decode cX0_init 26 = .ok (.iconst 5, 1) := by decide +kernel
theorem dX0_init_27 : decode cX0_init 27 = .ok (.newarray .int, 2) := by decide +kernel
theorem dX0_init_29 : decode cX0_init 29 = .ok (.putfield 21, 3) := by decide +kernel
theorem dX0_init_32 : decode cX0_init 32 = .ok (.aload_n 0, 1) := by decide +kernel
theorem dX0_init_33 : decode cX0_init 33 = .ok (.iconst 5, 1) := by decide +kernel
theorem dX0_init_34 : decode cX0_init 34 = .ok (.newarray .int, 2) := by decide +kernel
theorem dX0_init_36 : decode cX0_init 36 = .ok (.putfield 24, 3) := by decide +kernel
theorem dX0_init_39 : decode cX0_init 39 = .ok (.aload_n 0, 1) := by decide +kernel
theorem dX0_init_40 : decode cX0_init 40 = .ok (.bipush 6, 2) := by decide +kernel
theorem dX0_init_42 : decode cX0_init 42 = .ok (.putfield 27, 3) := by decide +kernel
theorem dX0_init_45 : decode cX0_init 45 = .ok (.aload_n 0, 1) := by decide +kernel
theorem dX0_init_46 : decode cX0_init 46 = .ok (.bipush 8, 2) := by decide +kernel
theorem dX0_init_48 : decode cX0_init 48 = .ok (.putfield 31, 3) := by decide +kernel
theorem dX0_init_51 : decode cX0_init 51 = .ok (.aload_n 0, 1) := by decide +kernel
theorem dX0_init_52 : decode cX0_init 52 = .ok (.bipush 7, 2) := by decide +kernel
theorem dX0_init_54 : decode cX0_init 54 = .ok (.putfield 34, 3) := by decide +kernel
theorem dX0_init_57 : decode cX0_init 57 = .ok (.return_, 1) := by decide +kernel
theorem dX0_clear_0 : decode cX0_clear 0 = .ok (.aload_n 0, 1) := by decide +kernel
theorem dX0_clear_1 : decode cX0_clear 1 = .ok (.iconst 0, 1) := by decide +kernel
theorem dX0_clear_2 : decode cX0_clear 2 = .ok (.putfield 37, 3) := by decide +kernel
theorem dX0_clear_5 : decode cX0_clear 5 = .ok (.aload_n 0, 1) := by decide +kernel
theorem dX0_clear_6 : decode cX0_clear 6 = .ok (.bipush 6, 2) := by decide +kernel
theorem dX0_clear_8 : decode cX0_clear 8 = .ok (.putfield 27, 3) := by decide +kernel
theorem dX0_clear_11 : decode cX0_clear 11 = .ok (.aload_n 0, 1) := by decide +kernel
theorem dX0_clear_12 : decode cX0_clear 12 = .ok (.iconst 0, 1) := by decide +kernel
theorem dX0_clear_13 : decode cX0_clear 13 = .ok (.putfield 40, 3) := by decide +kernel
theorem dX0_clear_16 : decode cX0_clear 16 = .ok (.aload_n 0, 1) := by decide +kernel
theorem dX0_clear_17 : decode cX0_clear 17 = .ok (.bipush 8, 2) := by decide +kernel
theorem dX0_clear_19 : decode cX0_clear 19 = .ok (.putfield 31, 3) := by decide +kernel
theorem dX0_clear_22 : decode cX0_clear 22 = .ok (.aload_n 0, 1) := by decide +kernel
theorem dX0_clear_23 : decode cX0_clear 23 = .ok (.bipush 7, 2) := by decide +kernel
theorem dX0_clear_25 : decode cX0_clear 25 = .ok (.putfield 34, 3) := by decide +kernel
theorem dX0_clear_28 : decode cX0_clear 28 = .ok (.aload_n 0, 1) := by decide +kernel
theorem dX0_clear_29 : decode cX0_clear 29 = .ok (.iconst 0, 1) := by decide +kernel
theorem dX0_clear_30 : decode cX0_clear 30 = .ok (.putfield 43, 3) := by decide +kernel
theorem dX0_clear_33 : decode cX0_clear 33 = .ok (.return_, 1) := by decide +kernel
theorem dX0_copy_0 : decode cX0_copy 0 = .ok (.aload_n 1, 1) := by decide +kernel
theorem dX0_copy_1 : decode cX0_copy 1 = .ok (.getfield 9, 3) := by decide +kernel
theorem dX0_copy_4 : decode cX0_copy 4 = .ok (.iconst 0, 1) := by decide +kernel
theorem dX0_copy_5 : decode cX0_copy 5 = .ok (.aload_n 0, 1) := by decide +kernel
theorem dX0_copy_6 : decode cX0_copy 6 = .ok (.getfield 9, 3) := by decide +kernel
theorem dX0_copy_9 : decode cX0_copy 9 = .ok (.iconst 0, 1) := by decide +kernel
theorem dX0_copy_10 : decode cX0_copy 10 = .ok (.iconst 5, 1) := by decide +kernel
theorem dX0_copy_11 : decode cX0_copy 11 = .ok (.invokestatic 47, 3) := by decide +kernel
theorem dX0_copy_14 : decode cX0_copy 14 = .ok (.aload_n 1, 1) := by decide +kernel
theorem dX0_copy_15 : decode cX0_copy 15 = .ok (.getfield 15, 3) := by decide +kernel
theorem dX0_copy_18 : decode cX0_copy 18 = .ok (.iconst 0, 1) := by decide +kernel
theorem dX0_copy_19 : decode cX0_copy 19 = .ok (.aload_n 0, 1) := by decide +kernel
theorem dX0_copy_20 : decode cX0_copy 20 = .ok (.getfield 15, 3) := by decide +kernel
theorem dX0_copy_23 : decode cX0_copy 23 = .ok (.iconst 0, 1) := by decide +kernel
theorem dX0_copy_24 : decode cX0_copy 24 = .ok (.iconst 5, 1) := by decide +kernel
theorem dX0_copy_25 : decode cX0_copy 25 = .ok (.invokestatic 47, 3) := by decide +kernel
theorem dX0_copy_28 : decode cX0_copy 28 = .ok (.aload_n 1, 1) := by decide +kernel
theorem dX0_copy_29 : decode cX0_copy 29 = .ok (.getfield 18, 3) := by decide +kernel
theorem dX0_copy_32 : decode cX0_copy 32 = .ok (.iconst 0, 1) := by decide +kernel
theorem dX0_copy_33 : decode cX0_copy 33 = .ok (.aload_n 0, 1) := by decide +kernel
theorem dX0_copy_34 : decode cX0_copy 34 = .ok (.getfield 18, 3) := by decide +kernel
theorem dX0_copy_37 : decode cX0_copy 37 = .ok (.iconst 0, 1) := by decide +kernel
theorem dX0_copy_38 : decode cX0_copy 38 = .ok (.iconst 5, 1) := by decide +kernel
theorem dX0_copy_39 : decode cX0_copy 39 = .ok (.invokestatic 47, 3) := by decide +kernel
theorem dX0_copy_42 : decode cX0_copy 42 = .ok (.aload_n 1, 1) := by decide +kernel
theorem dX0_copy_43 : decode cX0_copy 43 = .ok (.getfield 21, 3) := by decide +kernel
theorem dX0_copy_46 : decode cX0_copy 46 = .ok (.iconst 0, 1) := by decide +kernel
theorem dX0_copy_47 : decode cX0_copy 47 = .ok (.aload_n 0, 1) := by decide +kernel
theorem dX0_copy_48 : decode cX0_copy 48 = .ok (.getfield 21, 3) := by decide +kernel
theorem dX0_copy_51 : decode cX0_copy 51 = .ok (.iconst 0, 1) := by decide +kernel
theorem dX0_copy_52 : decode cX0_copy 52 = .ok (.iconst 5, 1) := by decide +kernel
theorem dX0_copy_53 : decode cX0_copy 53 = .ok (.invokestatic 47, 3) := by decide +kernel
theorem dX0_copy_56 : decode cX0_copy 56 = .ok (.aload_n 1, 1) := by decide +kernel
theorem dX0_copy_57 : decode cX0_copy 57 = .ok (.getfield 24, 3) := by decide +kernel
theorem dX0_copy_60 : decode cX0_copy 60 = .ok (.iconst 0, 1) := by decide +kernel
theorem dX0_copy_61 : decode cX0_copy 61 = .ok (.aload_n 0, 1) := by decide +kernel
theorem dX0_copy_62 : decode cX0_copy 62 = .ok (.getfield 24, 3) := by decide +kernel
theorem dX0_copy_65 : decode cX0_copy 65 = .ok (.iconst 0, 1) := by decide +kernel
theorem dX0_copy_66 : decode cX0_copy 66 = .ok (.iconst 5, 1) := by decide +kernel
theorem dX0_copy_67 : decode cX0_copy 67 = .ok (.invokestatic 47, 3) := by decide +kernel
theorem dX0_copy_70 : decode cX0_copy 70 = .ok (.aload_n 0, 1) := by decide +kernel
theorem dX0_copy_71 : decode cX0_copy 71 = .ok (.aload_n 1, 1) := by decide +kernel
theorem dX0_copy_72 : decode cX0_copy 72 = .ok (.getfield 37, 3) := by decide +kernel
theorem dX0_copy_75 : decode cX0_copy 75 = .ok (.putfield 37, 3) := by decide +kernel
theorem dX0_copy_78 : decode cX0_copy 78 = .ok (.aload_n 0, 1) := by decide +kernel
theorem dX0_copy_79 : decode cX0_copy 79 = .ok (.aload_n 1, 1) := by decide +kernel
theorem dX0_copy_80 : decode cX0_copy 80 = .ok (.getfield 27, 3) := by decide +kernel
theorem dX0_copy_83 : decode cX0_copy 83 = .ok (.putfield 27, 3) := by decide +kernel
theorem dX0_copy_86 : decode cX0_copy 86 = .ok (.aload_n 0, 1) := by decide +kernel
theorem dX0_copy_87 : decode cX0_copy 87 = .ok (.aload_n 1, 1) := by decide +kernel
theorem dX0_copy_88 : decode cX0_copy 88 = .ok (.getfield 40, 3) := by decide +kernel
theorem dX0_copy_91 : decode cX0_copy 91 = .ok (.putfield 40, 3) := by decide +kernel
theorem dX0_copy_94 : decode cX0_copy 94 = .ok (.aload_n 0, 1) := by decide +kernel
theorem dX0_copy_95 : decode cX0_copy 95 = .ok (.aload_n 1, 1) := by decide +kernel
theorem dX0_copy_96 : decode cX0_copy 96 = .ok (.getfield 31, 3) := by decide +kernel
theorem dX0_copy_99 : decode cX0_copy 99 = .ok (.putfield 31, 3) := by decide +kernel
theorem dX0_copy_102 : decode cX0_copy 102 = .ok (.aload_n 0, 1) := by decide +kernel
theorem dX0_copy_103 : decode cX0_copy 103 = .ok (.aload_n 1, 1) := by decide +kernel
theorem dX0_copy_104 : decode cX0_copy 104 = .ok (.getfield 34, 3) := by decide +kernel
theorem dX0_copy_107 : decode cX0_copy 107 = .ok (.putfield 34, 3) := by decide +kernel
theorem dX0_copy_110 : decode cX0_copy 110 = .ok (.aload_n 0, 1) := by decide +kernel
theorem dX0_copy_111 : decode cX0_copy 111 = .ok (.aload_n 1, 1) := by decide +kernel
theorem dX0_copy_112 : decode cX0_copy 112 = .ok (.getfield 43, 3) := by decide +kernel
theorem dX0_copy_115 : decode cX0_copy 115 = .ok (.putfield 43, 3) := by decide +kernel
theorem dX0_copy_118 : decode cX0_copy 118 = .ok (.return_, 1) := by decide +kernel
theorem dX0_setBeds_0 : decode cX0_setBeds 0 = .ok (.aload_n 0, 1) := by decide +kernel
theorem dX0_setBeds_1 : decode cX0_setBeds 1 = .ok (.getfield 43, 3) := by decide +kernel
theorem dX0_setBeds_4 : decode cX0_setBeds 4 = .ok (.ifCond .ne 14, 3) := by decide +kernel
theorem dX0_setBeds_7 : decode cX0_setBeds 7 = .ok (.iload_n 1, 1) := by decide +kernel
theorem dX0_setBeds_8 : decode cX0_setBeds 8 = .ok (.iconst 2, 1) := by decide +kernel
theorem dX0_setBeds_9 : decode cX0_setBeds 9 = .ok (.if_icmp .lt 9, 3) := by decide +kernel
theorem dX0_setBeds_12 : decode cX0_setBeds 12 = .ok (.iload_n 1, 1) := by decide +kernel
theorem dX0_setBeds_13 : decode cX0_setBeds 13 = .ok (.bipush 6, 2) := by decide +kernel
theorem dX0_setBeds_15 : decode cX0_setBeds 15 = .ok (.if_icmp .le 5, 3) := by decide +kernel
theorem dX0_setBeds_18 : decode cX0_setBeds 18 = .ok (.iconst 0, 1) := by decide +kernel
theorem dX0_setBeds_19 : decode cX0_setBeds 19 = .ok (.ireturn, 1) := by decide +kernel
theorem dX0_setBeds_20 : decode cX0_setBeds 20 = .ok (.aload_n 0, 1) := by decide +kernel
theorem dX0_setBeds_21 : decode cX0_setBeds 21 = .ok (.iload_n 1, 1) := by decide +kernel
theorem dX0_setBeds_22 : decode cX0_setBeds 22 = .ok (.putfield 27, 3) := by decide +kernel
theorem dX0_setBeds_25 : decode cX0_setBeds 25 = .ok (.iconst 1, 1) := by decide +kernel
theorem dX0_setBeds_26 : decode cX0_setBeds 26 = .ok (.ireturn, 1) := by decide +kernel
theorem dX0_addGuest_0 : decode cX0_addGuest 0 = .ok (.aload_n 1, 1) := by decide +kernel
theorem dX0_addGuest_1 : decode cX0_addGuest 1 = .ok (.arraylength, 1) := by decide +kernel
theorem dX0_addGuest_2 : decode cX0_addGuest 2 = .ok (.iconst 5, 1) := by decide +kernel
theorem dX0_addGuest_3 : decode cX0_addGuest 3 = .ok (.if_icmp .lt 24, 3) := by decide +kernel
theorem dX0_addGuest_6 : decode cX0_addGuest 6 = .ok (.aload_n 0, 1) := by decide +kernel
theorem dX0_addGuest_7 : decode cX0_addGuest 7 = .ok (.getfield 37, 3) := by decide +kernel
theorem dX0_addGuest_10 : decode cX0_addGuest 10 = .ok (.iconst 5, 1) := by decide +kernel
theorem dX0_addGuest_11 : decode cX0_addGuest 11 = .ok (.if_icmp .ge 16, 3) := by decide +kernel
theorem dX0_addGuest_14 : decode cX0_addGuest 14 = .ok (.aload_n 0, 1) := by decide +kernel
theorem dX0_addGuest_15 : decode cX0_addGuest 15 = .ok (.getfield 37, 3) := by decide +kernel
theorem dX0_addGuest_18 : decode cX0_addGuest 18 = .ok (.aload_n 0, 1) := by decide +kernel
theorem dX0_addGuest_19 : decode cX0_addGuest 19 = .ok (.getfield 27, 3) := by decide +kernel
theorem dX0_addGuest_22 : decode cX0_addGuest 22 = .ok (.iconst 1, 1) := by decide +kernel
theorem dX0_addGuest_23 : decode cX0_addGuest 23 = .ok (.isub, 1) := by decide +kernel
theorem dX0_addGuest_24 : decode cX0_addGuest 24 = .ok (.if_icmp .lt 5, 3) := by decide +kernel
theorem dX0_addGuest_27 : decode cX0_addGuest 27 = .ok (.iconst 0, 1) := by decide +kernel
theorem dX0_addGuest_28 : decode cX0_addGuest 28 = .ok (.ireturn, 1) := by decide +kernel
theorem dX0_addGuest_29 : decode cX0_addGuest 29 = .ok (.aload_n 1, 1) := by decide +kernel
theorem dX0_addGuest_30 : decode cX0_addGuest 30 = .ok (.iconst 0, 1) := by decide +kernel
theorem dX0_addGuest_31 : decode cX0_addGuest 31 = .ok (.iaload, 1) := by decide +kernel
theorem dX0_addGuest_32 : decode cX0_addGuest 32 = .ok (.iconst 3, 1) := by decide +kernel
theorem dX0_addGuest_33 : decode cX0_addGuest 33 = .ok (.if_icmp .gt 19, 3) := by decide +kernel
theorem dX0_addGuest_36 : decode cX0_addGuest 36 = .ok (.aload_n 1, 1) := by decide +kernel
theorem dX0_addGuest_37 : decode cX0_addGuest 37 = .ok (.iconst 1, 1) := by decide +kernel
theorem dX0_addGuest_38 : decode cX0_addGuest 38 = .ok (.iaload, 1) := by decide +kernel
theorem dX0_addGuest_39 : decode cX0_addGuest 39 = .ok (.bipush 30, 2) := by decide +kernel
theorem dX0_addGuest_41 : decode cX0_addGuest 41 = .ok (.if_icmp .gt 11, 3) := by decide +kernel
theorem dX0_addGuest_44 : decode cX0_addGuest 44 = .ok (.aload_n 1, 1) := by decide +kernel
theorem dX0_addGuest_45 : decode cX0_addGuest 45 = .ok (.iconst 2, 1) := by decide +kernel
theorem dX0_addGuest_46 : decode cX0_addGuest 46 = .ok (.iaload, 1) := by decide +kernel
theorem dX0_addGuest_47 : decode cX0_addGuest 47 = .ok (.bipush 12, 2) := by decide +kernel
theorem dX0_addGuest_49 : decode cX0_addGuest 49 = .ok (.if_icmp .le 5, 3) := by decide +kernel
theorem dX0_addGuest_52 : decode cX0_addGuest 52 = .ok (.iconst 0, 1) := by decide +kernel
theorem dX0_addGuest_53 : decode cX0_addGuest 53 = .ok (.ireturn, 1) := by decide +kernel
theorem dX0_addGuest_54 : decode cX0_addGuest 54 = .ok (.aload_n 1, 1) := by decide +kernel
theorem dX0_addGuest_55 : decode cX0_addGuest 55 = .ok (.iconst 3, 1) := by decide +kernel
theorem dX0_addGuest_56 : decode cX0_addGuest 56 = .ok (.iaload, 1) := by decide +kernel
theorem dX0_addGuest_57 : decode cX0_addGuest 57 = .ok (.iconst 1, 1) := by decide +kernel
theorem dX0_addGuest_58 : decode cX0_addGuest 58 = .ok (.if_icmp .lt 31, 3) := by decide +kernel
theorem dX0_addGuest_61 : decode cX0_addGuest 61 = .ok (.aload_n 1, 1) := by decide +kernel
theorem dX0_addGuest_62 : decode cX0_addGuest 62 = .ok (.iconst 3, 1) := by decide +kernel
theorem dX0_addGuest_63 : decode cX0_addGuest 63 = .ok (.iaload, 1) := by decide +kernel
theorem dX0_addGuest_64 : decode cX0_addGuest 64 = .ok (.bipush 40, 2) := by decide +kernel
theorem dX0_addGuest_66 : decode cX0_addGuest 66 = .ok (.if_icmp .gt 23, 3) := by decide +kernel
theorem dX0_addGuest_69 : decode cX0_addGuest 69 = .ok (.aload_n 0, 1) := by decide +kernel
theorem dX0_addGuest_70 : decode cX0_addGuest 70 = .ok (.aload_n 1, 1) := by decide +kernel
theorem dX0_addGuest_71 : decode cX0_addGuest 71 = .ok (.iconst 4, 1) := by decide +kernel
theorem dX0_addGuest_72 : decode cX0_addGuest 72 = .ok (.iaload, 1) := by decide +kernel
theorem dX0_addGuest_73 : decode cX0_addGuest 73 = .ok (.invokevirtual 53, 3) := by decide +kernel
theorem dX0_addGuest_76 : decode cX0_addGuest 76 = .ok (.ifCond .eq 13, 3) := by decide +kernel
theorem dX0_addGuest_79 : decode cX0_addGuest 79 = .ok (.aload_n 0, 1) := by decide +kernel
theorem dX0_addGuest_80 : decode cX0_addGuest 80 = .ok (.aload_n 1, 1) := by decide +kernel
theorem dX0_addGuest_81 : decode cX0_addGuest 81 = .ok (.iconst 4, 1) := by decide +kernel
theorem dX0_addGuest_82 : decode cX0_addGuest 82 = .ok (.iaload, 1) := by decide +kernel
theorem dX0_addGuest_83 : decode cX0_addGuest 83 = .ok (.invokevirtual 57, 3) := by decide +kernel
theorem dX0_addGuest_86 : decode cX0_addGuest 86 = .ok (.ifCond .eq 5, 3) := by decide +kernel
theorem dX0_addGuest_89 : decode cX0_addGuest 89 = .ok (.iconst 0, 1) := by decide +kernel
theorem dX0_addGuest_90 : decode cX0_addGuest 90 = .ok (.ireturn, 1) := by decide +kernel
theorem dX0_addGuest_91 : decode cX0_addGuest 91 = .ok (.aload_n 0, 1) := by decide +kernel
theorem dX0_addGuest_92 : decode cX0_addGuest 92 = .ok (.getfield 9, 3) := by decide +kernel
theorem dX0_addGuest_95 : decode cX0_addGuest 95 = .ok (.aload_n 0, 1) := by decide +kernel
theorem dX0_addGuest_96 : decode cX0_addGuest 96 = .ok (.getfield 37, 3) := by decide +kernel
theorem dX0_addGuest_99 : decode cX0_addGuest 99 = .ok (.aload_n 1, 1) := by decide +kernel
theorem dX0_addGuest_100 : decode cX0_addGuest 100 = .ok (.iconst 0, 1) := by decide +kernel
theorem dX0_addGuest_101 : decode cX0_addGuest 101 = .ok (.iaload, 1) := by decide +kernel
theorem dX0_addGuest_102 : decode cX0_addGuest 102 = .ok (.iastore, 1) := by decide +kernel
theorem dX0_addGuest_103 : decode cX0_addGuest 103 = .ok (.aload_n 0, 1) := by decide +kernel
theorem dX0_addGuest_104 : decode cX0_addGuest 104 = .ok (.getfield 15, 3) := by decide +kernel
theorem dX0_addGuest_107 : decode cX0_addGuest 107 = .ok (.aload_n 0, 1) := by decide +kernel
theorem dX0_addGuest_108 : decode cX0_addGuest 108 = .ok (.getfield 37, 3) := by decide +kernel
theorem dX0_addGuest_111 : decode cX0_addGuest 111 = .ok (.aload_n 1, 1) := by decide +kernel
theorem dX0_addGuest_112 : decode cX0_addGuest 112 = .ok (.iconst 1, 1) := by decide +kernel
theorem dX0_addGuest_113 : decode cX0_addGuest 113 = .ok (.iaload, 1) := by decide +kernel
theorem dX0_addGuest_114 : decode cX0_addGuest 114 = .ok (.iastore, 1) := by decide +kernel
theorem dX0_addGuest_115 : decode cX0_addGuest 115 = .ok (.aload_n 0, 1) := by decide +kernel
theorem dX0_addGuest_116 : decode cX0_addGuest 116 = .ok (.getfield 18, 3) := by decide +kernel
theorem dX0_addGuest_119 : decode cX0_addGuest 119 = .ok (.aload_n 0, 1) := by decide +kernel
theorem dX0_addGuest_120 : decode cX0_addGuest 120 = .ok (.getfield 37, 3) := by decide +kernel
theorem dX0_addGuest_123 : decode cX0_addGuest 123 = .ok (.aload_n 1, 1) := by decide +kernel
theorem dX0_addGuest_124 : decode cX0_addGuest 124 = .ok (.iconst 2, 1) := by decide +kernel
theorem dX0_addGuest_125 : decode cX0_addGuest 125 = .ok (.iaload, 1) := by decide +kernel
theorem dX0_addGuest_126 : decode cX0_addGuest 126 = .ok (.iastore, 1) := by decide +kernel
theorem dX0_addGuest_127 : decode cX0_addGuest 127 = .ok (.aload_n 0, 1) := by decide +kernel
theorem dX0_addGuest_128 : decode cX0_addGuest 128 = .ok (.getfield 21, 3) := by decide +kernel
theorem dX0_addGuest_131 : decode cX0_addGuest 131 = .ok (.aload_n 0, 1) := by decide +kernel
theorem dX0_addGuest_132 : decode cX0_addGuest 132 = .ok (.getfield 37, 3) := by decide +kernel
theorem dX0_addGuest_135 : decode cX0_addGuest 135 = .ok (.aload_n 1, 1) := by decide +kernel
theorem dX0_addGuest_136 : decode cX0_addGuest 136 = .ok (.iconst 3, 1) := by decide +kernel
theorem dX0_addGuest_137 : decode cX0_addGuest 137 = .ok (.iaload, 1) := by decide +kernel
theorem dX0_addGuest_138 : decode cX0_addGuest 138 = .ok (.iastore, 1) := by decide +kernel
theorem dX0_addGuest_139 : decode cX0_addGuest 139 = .ok (.aload_n 0, 1) := by decide +kernel
theorem dX0_addGuest_140 : decode cX0_addGuest 140 = .ok (.getfield 24, 3) := by decide +kernel
theorem dX0_addGuest_143 : decode cX0_addGuest 143 = .ok (.aload_n 0, 1) := by decide +kernel
theorem dX0_addGuest_144 : decode cX0_addGuest 144 = .ok (.getfield 37, 3) := by decide +kernel
theorem dX0_addGuest_147 : decode cX0_addGuest 147 = .ok (.aload_n 1, 1) := by decide +kernel
theorem dX0_addGuest_148 : decode cX0_addGuest 148 = .ok (.iconst 4, 1) := by decide +kernel
theorem dX0_addGuest_149 : decode cX0_addGuest 149 = .ok (.iaload, 1) := by decide +kernel
theorem dX0_addGuest_150 : decode cX0_addGuest 150 = .ok (.iastore, 1) := by decide +kernel
theorem dX0_addGuest_151 : decode cX0_addGuest 151 = .ok (.aload_n 0, 1) := by decide +kernel
theorem dX0_addGuest_152 : decode cX0_addGuest 152 = .ok (.dup, 1) := by decide +kernel
theorem dX0_addGuest_153 : decode cX0_addGuest 153 = .ok (.getfield 37, 3) := by decide +kernel
theorem dX0_addGuest_156 : decode cX0_addGuest 156 = .ok (.iconst 1, 1) := by decide +kernel
theorem dX0_addGuest_157 : decode cX0_addGuest 157 = .ok (.iadd, 1) := by decide +kernel
theorem dX0_addGuest_158 : decode cX0_addGuest 158 = .ok (.putfield 37, 3) := by decide +kernel
theorem dX0_addGuest_161 : decode cX0_addGuest 161 = .ok (.aload_n 0, 1) := by decide +kernel
theorem dX0_addGuest_162 : decode cX0_addGuest 162 = .ok (.iconst 1, 1) := by decide +kernel
theorem dX0_addGuest_163 : decode cX0_addGuest 163 = .ok (.putfield 43, 3) := by decide +kernel
theorem dX0_addGuest_166 : decode cX0_addGuest 166 = .ok (.iconst 1, 1) := by decide +kernel
theorem dX0_addGuest_167 : decode cX0_addGuest 167 = .ok (.ireturn, 1) := by decide +kernel
theorem dX0_isTaken_0 : decode cX0_isTaken 0 = .ok (.iconst 0, 1) := by decide +kernel
theorem dX0_isTaken_1 : decode cX0_isTaken 1 = .ok (.istore_n 2, 1) := by decide +kernel
theorem dX0_isTaken_2 : decode cX0_isTaken 2 = .ok (.iload_n 2, 1) := by decide +kernel
theorem dX0_isTaken_3 : decode cX0_isTaken 3 = .ok (.aload_n 0, 1) := by decide +kernel
theorem dX0_isTaken_4 : decode cX0_isTaken 4 = .ok (.getfield 37, 3) := by decide +kernel
theorem dX0_isTaken_7 : decode cX0_isTaken 7 = .ok (.if_icmp .ge 26, 3) := by decide +kernel
theorem dX0_isTaken_10 : decode cX0_isTaken 10 = .ok (.iload_n 2, 1) := by decide +kernel
theorem dX0_isTaken_11 : decode cX0_isTaken 11 = .ok (.iconst 5, 1) := by decide +kernel
theorem dX0_isTaken_12 : decode cX0_isTaken 12 = .ok (.if_icmp .ge 21, 3) := by decide +kernel
theorem dX0_isTaken_15 : decode cX0_isTaken 15 = .ok (.aload_n 0, 1) := by decide +kernel
theorem dX0_isTaken_16 : decode cX0_isTaken 16 = .ok (.getfield 24, 3) := by decide +kernel
theorem dX0_isTaken_19 : decode cX0_isTaken 19 = .ok (.iload_n 2, 1) := by decide +kernel
theorem dX0_isTaken_20 : decode cX0_isTaken 20 = .ok (.iaload, 1) := by decide +kernel
theorem dX0_isTaken_21 : decode cX0_isTaken 21 = .ok (.iload_n 1, 1) := by decide +kernel
theorem dX0_isTaken_22 : decode cX0_isTaken 22 = .ok (.if_icmp .ne 5, 3) := by decide +kernel
theorem dX0_isTaken_25 : decode cX0_isTaken 25 = .ok (.iconst 1, 1) := by decide +kernel
theorem dX0_isTaken_26 : decode cX0_isTaken 26 = .ok (.ireturn, 1) := by decide +kernel
theorem dX0_isTaken_27 : decode cX0_isTaken 27 = .ok (.iinc 2 1, 3) := by decide +kernel
theorem dX0_isTaken_30 : decode cX0_isTaken 30 = .ok (.goto (-28), 3) := by decide +kernel
theorem dX0_isTaken_33 : decode cX0_isTaken 33 = .ok (.iconst 0, 1) := by decide +kernel
theorem dX0_isTaken_34 : decode cX0_isTaken 34 = .ok (.ireturn, 1) := by decide +kernel
theorem dX0_stuffWall_0 : decode cX0_stuffWall 0 = .ok (.aload_n 0, 1) := by decide +kernel
theorem dX0_stuffWall_1 : decode cX0_stuffWall 1 = .ok (.iload_n 1, 1) := by decide +kernel
theorem dX0_stuffWall_2 : decode cX0_stuffWall 2 = .ok (.invokevirtual 60, 3) := by decide +kernel
theorem dX0_stuffWall_5 : decode cX0_stuffWall 5 = .ok (.ifCond .ne 5, 3) := by decide +kernel
theorem dX0_stuffWall_8 : decode cX0_stuffWall 8 = .ok (.iconst 0, 1) := by decide +kernel
theorem dX0_stuffWall_9 : decode cX0_stuffWall 9 = .ok (.ireturn, 1) := by decide +kernel
theorem dX0_stuffWall_10 : decode cX0_stuffWall 10 = .ok (.aload_n 0, 1) := by decide +kernel
theorem dX0_stuffWall_11 : decode cX0_stuffWall 11 = .ok (.dup, 1) := by decide +kernel
theorem dX0_stuffWall_12 : decode cX0_stuffWall 12 = .ok (.getfield 40, 3) := by decide +kernel
theorem dX0_stuffWall_15 : decode cX0_stuffWall 15 = .ok (.iconst 1, 1) := by decide +kernel
theorem dX0_stuffWall_16 : decode cX0_stuffWall 16 = .ok (.iload_n 1, 1) := by decide +kernel
theorem dX0_stuffWall_17 : decode cX0_stuffWall 17 = .ok (.ishl, 1) := by decide +kernel
theorem dX0_stuffWall_18 : decode cX0_stuffWall 18 = .ok (.ior, 1) := by decide +kernel
theorem dX0_stuffWall_19 : decode cX0_stuffWall 19 = .ok (.putfield 40, 3) := by decide +kernel
theorem dX0_stuffWall_22 : decode cX0_stuffWall 22 = .ok (.aload_n 0, 1) := by decide +kernel
theorem dX0_stuffWall_23 : decode cX0_stuffWall 23 = .ok (.iconst 1, 1) := by decide +kernel
theorem dX0_stuffWall_24 : decode cX0_stuffWall 24 = .ok (.putfield 43, 3) := by decide +kernel
theorem dX0_stuffWall_27 : decode cX0_stuffWall 27 = .ok (.iconst 1, 1) := by decide +kernel
theorem dX0_stuffWall_28 : decode cX0_stuffWall 28 = .ok (.ireturn, 1) := by decide +kernel
theorem dX0_setPorters_0 : decode cX0_setPorters 0 = .ok (.iload_n 1, 1) := by decide +kernel
theorem dX0_setPorters_1 : decode cX0_setPorters 1 = .ok (.bipush 40, 2) := by decide +kernel
theorem dX0_setPorters_3 : decode cX0_setPorters 3 = .ok (.if_icmp .le 5, 3) := by decide +kernel
theorem dX0_setPorters_6 : decode cX0_setPorters 6 = .ok (.iconst 0, 1) := by decide +kernel
theorem dX0_setPorters_7 : decode cX0_setPorters 7 = .ok (.ireturn, 1) := by decide +kernel
theorem dX0_setPorters_8 : decode cX0_setPorters 8 = .ok (.aload_n 0, 1) := by decide +kernel
theorem dX0_setPorters_9 : decode cX0_setPorters 9 = .ok (.iload_n 1, 1) := by decide +kernel
theorem dX0_setPorters_10 : decode cX0_setPorters 10 = .ok (.putfield 31, 3) := by decide +kernel
theorem dX0_setPorters_13 : decode cX0_setPorters 13 = .ok (.aload_n 0, 1) := by decide +kernel
theorem dX0_setPorters_14 : decode cX0_setPorters 14 = .ok (.iconst 1, 1) := by decide +kernel
theorem dX0_setPorters_15 : decode cX0_setPorters 15 = .ok (.putfield 43, 3) := by decide +kernel
theorem dX0_setPorters_18 : decode cX0_setPorters 18 = .ok (.iconst 1, 1) := by decide +kernel
theorem dX0_setPorters_19 : decode cX0_setPorters 19 = .ok (.ireturn, 1) := by decide +kernel
theorem dX0_setNote_0 : decode cX0_setNote 0 = .ok (.iload_n 1, 1) := by decide +kernel
theorem dX0_setNote_1 : decode cX0_setNote 1 = .ok (.bipush 12, 2) := by decide +kernel
theorem dX0_setNote_3 : decode cX0_setNote 3 = .ok (.if_icmp .le 5, 3) := by decide +kernel
theorem dX0_setNote_6 : decode cX0_setNote 6 = .ok (.iconst 0, 1) := by decide +kernel
theorem dX0_setNote_7 : decode cX0_setNote 7 = .ok (.ireturn, 1) := by decide +kernel
theorem dX0_setNote_8 : decode cX0_setNote 8 = .ok (.aload_n 0, 1) := by decide +kernel
theorem dX0_setNote_9 : decode cX0_setNote 9 = .ok (.iload_n 1, 1) := by decide +kernel
theorem dX0_setNote_10 : decode cX0_setNote 10 = .ok (.putfield 34, 3) := by decide +kernel
theorem dX0_setNote_13 : decode cX0_setNote 13 = .ok (.aload_n 0, 1) := by decide +kernel
theorem dX0_setNote_14 : decode cX0_setNote 14 = .ok (.iconst 1, 1) := by decide +kernel
theorem dX0_setNote_15 : decode cX0_setNote 15 = .ok (.putfield 43, 3) := by decide +kernel
theorem dX0_setNote_18 : decode cX0_setNote 18 = .ok (.iconst 1, 1) := by decide +kernel
theorem dX0_setNote_19 : decode cX0_setNote 19 = .ok (.ireturn, 1) := by decide +kernel
theorem dX0_supposeFeigning_0 : decode cX0_supposeFeigning 0 = .ok (.iconst 0, 1) := by decide +kernel
theorem dX0_supposeFeigning_1 : decode cX0_supposeFeigning 1 = .ok (.istore_n 2, 1) := by decide +kernel
theorem dX0_supposeFeigning_2 : decode cX0_supposeFeigning 2 = .ok (.iload_n 2, 1) := by decide +kernel
theorem dX0_supposeFeigning_3 : decode cX0_supposeFeigning 3 = .ok (.aload_n 0, 1) := by decide +kernel
theorem dX0_supposeFeigning_4 : decode cX0_supposeFeigning 4 = .ok (.getfield 37, 3) := by decide +kernel
theorem dX0_supposeFeigning_7 : decode cX0_supposeFeigning 7 = .ok (.if_icmp .ge 46, 3) := by decide +kernel
theorem dX0_supposeFeigning_10 : decode cX0_supposeFeigning 10 = .ok (.iload_n 2, 1) := by decide +kernel
theorem dX0_supposeFeigning_11 : decode cX0_supposeFeigning 11 = .ok (.iconst 5, 1) := by decide +kernel
theorem dX0_supposeFeigning_12 : decode cX0_supposeFeigning 12 = .ok (.if_icmp .ge 41, 3) := by decide +kernel
theorem dX0_supposeFeigning_15 : decode cX0_supposeFeigning 15 = .ok (.iload_n 2, 1) := by decide +kernel
theorem dX0_supposeFeigning_16 : decode cX0_supposeFeigning 16 = .ok (.iload_n 1, 1) := by decide +kernel
theorem dX0_supposeFeigning_17 : decode cX0_supposeFeigning 17 = .ok (.if_icmp .ne 13, 3) := by decide +kernel
theorem dX0_supposeFeigning_20 : decode cX0_supposeFeigning 20 = .ok (.aload_n 0, 1) := by decide +kernel
theorem dX0_supposeFeigning_21 : decode cX0_supposeFeigning 21 = .ok (.getfield 9, 3) := by decide +kernel
theorem dX0_supposeFeigning_24 : decode cX0_supposeFeigning 24 = .ok (.iload_n 2, 1) := by decide +kernel
theorem dX0_supposeFeigning_25 : decode cX0_supposeFeigning 25 = .ok (.iconst 3, 1) := by decide +kernel
theorem dX0_supposeFeigning_26 : decode cX0_supposeFeigning 26 = .ok (.iastore, 1) := by decide +kernel
theorem dX0_supposeFeigning_27 : decode cX0_supposeFeigning 27 = .ok (.goto 20, 3) := by decide +kernel
theorem dX0_supposeFeigning_30 : decode cX0_supposeFeigning 30 = .ok (.aload_n 0, 1) := by decide +kernel
theorem dX0_supposeFeigning_31 : decode cX0_supposeFeigning 31 = .ok (.getfield 9, 3) := by decide +kernel
theorem dX0_supposeFeigning_34 : decode cX0_supposeFeigning 34 = .ok (.iload_n 2, 1) := by decide +kernel
theorem dX0_supposeFeigning_35 : decode cX0_supposeFeigning 35 = .ok (.iaload, 1) := by decide +kernel
theorem dX0_supposeFeigning_36 : decode cX0_supposeFeigning 36 = .ok (.iconst 3, 1) := by decide +kernel
theorem dX0_supposeFeigning_37 : decode cX0_supposeFeigning 37 = .ok (.if_icmp .ne 10, 3) := by decide +kernel
theorem dX0_supposeFeigning_40 : decode cX0_supposeFeigning 40 = .ok (.aload_n 0, 1) := by decide +kernel
theorem dX0_supposeFeigning_41 : decode cX0_supposeFeigning 41 = .ok (.getfield 9, 3) := by decide +kernel
theorem dX0_supposeFeigning_44 : decode cX0_supposeFeigning 44 = .ok (.iload_n 2, 1) := by decide +kernel
theorem dX0_supposeFeigning_45 : decode cX0_supposeFeigning 45 = .ok (.iconst 0, 1) := by decide +kernel
theorem dX0_supposeFeigning_46 : decode cX0_supposeFeigning 46 = .ok (.iastore, 1) := by decide +kernel
theorem dX0_supposeFeigning_47 : decode cX0_supposeFeigning 47 = .ok (.iinc 2 1, 3) := by decide +kernel
theorem dX0_supposeFeigning_50 : decode cX0_supposeFeigning 50 = .ok (.goto (-48), 3) := by decide +kernel
theorem dX0_supposeFeigning_53 : decode cX0_supposeFeigning 53 = .ok (.return_, 1) := by decide +kernel
theorem dX0_guests_0 : decode cX0_guests 0 = .ok (.aload_n 0, 1) := by decide +kernel
theorem dX0_guests_1 : decode cX0_guests 1 = .ok (.getfield 37, 3) := by decide +kernel
theorem dX0_guests_4 : decode cX0_guests 4 = .ok (.ireturn, 1) := by decide +kernel
theorem dX0_beds_0 : decode cX0_beds 0 = .ok (.aload_n 0, 1) := by decide +kernel
theorem dX0_beds_1 : decode cX0_beds 1 = .ok (.getfield 27, 3) := by decide +kernel
theorem dX0_beds_4 : decode cX0_beds 4 = .ok (.ireturn, 1) := by decide +kernel
theorem dX0_walls_0 : decode cX0_walls 0 = .ok (.aload_n 0, 1) := by decide +kernel
theorem dX0_walls_1 : decode cX0_walls 1 = .ok (.getfield 40, 3) := by decide +kernel
theorem dX0_walls_4 : decode cX0_walls 4 = .ok (.ireturn, 1) := by decide +kernel
theorem dX0_hasGuest_0 : decode cX0_hasGuest 0 = .ok (.iload_n 1, 1) := by decide +kernel
theorem dX0_hasGuest_1 : decode cX0_hasGuest 1 = .ok (.ifCond .lt 20, 3) := by decide +kernel
theorem dX0_hasGuest_4 : decode cX0_hasGuest 4 = .ok (.iload_n 1, 1) := by decide +kernel
theorem dX0_hasGuest_5 : decode cX0_hasGuest 5 = .ok (.aload_n 0, 1) := by decide +kernel
theorem dX0_hasGuest_6 : decode cX0_hasGuest 6 = .ok (.getfield 37, 3) := by decide +kernel
theorem dX0_hasGuest_9 : decode cX0_hasGuest 9 = .ok (.if_icmp .ge 12, 3) := by decide +kernel
theorem dX0_hasGuest_12 : decode cX0_hasGuest 12 = .ok (.iload_n 1, 1) := by decide +kernel
theorem dX0_hasGuest_13 : decode cX0_hasGuest 13 = .ok (.iconst 5, 1) := by decide +kernel
theorem dX0_hasGuest_14 : decode cX0_hasGuest 14 = .ok (.if_icmp .ge 7, 3) := by decide +kernel
theorem dX0_hasGuest_17 : decode cX0_hasGuest 17 = .ok (.iconst 1, 1) := by decide +kernel
theorem dX0_hasGuest_18 : decode cX0_hasGuest 18 = .ok (.goto 4, 3) := by decide +kernel
theorem dX0_hasGuest_21 : decode cX0_hasGuest 21 = .ok (.iconst 0, 1) := by decide +kernel
theorem dX0_hasGuest_22 : decode cX0_hasGuest 22 = .ok (.ireturn, 1) := by decide +kernel
theorem dX0_hasBed_0 : decode cX0_hasBed 0 = .ok (.iload_n 1, 1) := by decide +kernel
theorem dX0_hasBed_1 : decode cX0_hasBed 1 = .ok (.ifCond .lt 15, 3) := by decide +kernel
theorem dX0_hasBed_4 : decode cX0_hasBed 4 = .ok (.iload_n 1, 1) := by decide +kernel
theorem dX0_hasBed_5 : decode cX0_hasBed 5 = .ok (.aload_n 0, 1) := by decide +kernel
theorem dX0_hasBed_6 : decode cX0_hasBed 6 = .ok (.getfield 27, 3) := by decide +kernel
theorem dX0_hasBed_9 : decode cX0_hasBed 9 = .ok (.if_icmp .ge 7, 3) := by decide +kernel
theorem dX0_hasBed_12 : decode cX0_hasBed 12 = .ok (.iconst 1, 1) := by decide +kernel
theorem dX0_hasBed_13 : decode cX0_hasBed 13 = .ok (.goto 4, 3) := by decide +kernel
theorem dX0_hasBed_16 : decode cX0_hasBed 16 = .ok (.iconst 0, 1) := by decide +kernel
theorem dX0_hasBed_17 : decode cX0_hasBed 17 = .ok (.ireturn, 1) := by decide +kernel
theorem dX0_hasWall_0 : decode cX0_hasWall 0 = .ok (.iload_n 1, 1) := by decide +kernel
theorem dX0_hasWall_1 : decode cX0_hasWall 1 = .ok (.ifCond .lt 17, 3) := by decide +kernel
theorem dX0_hasWall_4 : decode cX0_hasWall 4 = .ok (.iload_n 1, 1) := by decide +kernel
theorem dX0_hasWall_5 : decode cX0_hasWall 5 = .ok (.aload_n 0, 1) := by decide +kernel
theorem dX0_hasWall_6 : decode cX0_hasWall 6 = .ok (.getfield 27, 3) := by decide +kernel
theorem dX0_hasWall_9 : decode cX0_hasWall 9 = .ok (.iconst 1, 1) := by decide +kernel
theorem dX0_hasWall_10 : decode cX0_hasWall 10 = .ok (.isub, 1) := by decide +kernel
theorem dX0_hasWall_11 : decode cX0_hasWall 11 = .ok (.if_icmp .ge 7, 3) := by decide +kernel
theorem dX0_hasWall_14 : decode cX0_hasWall 14 = .ok (.iconst 1, 1) := by decide +kernel
theorem dX0_hasWall_15 : decode cX0_hasWall 15 = .ok (.goto 4, 3) := by decide +kernel
theorem dX0_hasWall_18 : decode cX0_hasWall 18 = .ok (.iconst 0, 1) := by decide +kernel
theorem dX0_hasWall_19 : decode cX0_hasWall 19 = .ok (.ireturn, 1) := by decide +kernel
theorem dX0_kindOf_0 : decode cX0_kindOf 0 = .ok (.aload_n 0, 1) := by decide +kernel
theorem dX0_kindOf_1 : decode cX0_kindOf 1 = .ok (.iload_n 1, 1) := by decide +kernel
theorem dX0_kindOf_2 : decode cX0_kindOf 2 = .ok (.invokevirtual 63, 3) := by decide +kernel
theorem dX0_kindOf_5 : decode cX0_kindOf 5 = .ok (.ifCond .eq 12, 3) := by decide +kernel
theorem dX0_kindOf_8 : decode cX0_kindOf 8 = .ok (.aload_n 0, 1) := by decide +kernel
theorem dX0_kindOf_9 : decode cX0_kindOf 9 = .ok (.getfield 9, 3) := by decide +kernel
theorem dX0_kindOf_12 : decode cX0_kindOf 12 = .ok (.iload_n 1, 1) := by decide +kernel
theorem dX0_kindOf_13 : decode cX0_kindOf 13 = .ok (.iaload, 1) := by decide +kernel
theorem dX0_kindOf_14 : decode cX0_kindOf 14 = .ok (.goto 4, 3) := by decide +kernel
theorem dX0_kindOf_17 : decode cX0_kindOf 17 = .ok (.iconst 0, 1) := by decide +kernel
theorem dX0_kindOf_18 : decode cX0_kindOf 18 = .ok (.ireturn, 1) := by decide +kernel
theorem dX0_strengthOf_0 : decode cX0_strengthOf 0 = .ok (.aload_n 0, 1) := by decide +kernel
theorem dX0_strengthOf_1 : decode cX0_strengthOf 1 = .ok (.iload_n 1, 1) := by decide +kernel
theorem dX0_strengthOf_2 : decode cX0_strengthOf 2 = .ok (.invokevirtual 63, 3) := by decide +kernel
theorem dX0_strengthOf_5 : decode cX0_strengthOf 5 = .ok (.ifCond .eq 12, 3) := by decide +kernel
theorem dX0_strengthOf_8 : decode cX0_strengthOf 8 = .ok (.aload_n 0, 1) := by decide +kernel
theorem dX0_strengthOf_9 : decode cX0_strengthOf 9 = .ok (.getfield 15, 3) := by decide +kernel
theorem dX0_strengthOf_12 : decode cX0_strengthOf 12 = .ok (.iload_n 1, 1) := by decide +kernel
theorem dX0_strengthOf_13 : decode cX0_strengthOf 13 = .ok (.iaload, 1) := by decide +kernel
theorem dX0_strengthOf_14 : decode cX0_strengthOf 14 = .ok (.goto 4, 3) := by decide +kernel
theorem dX0_strengthOf_17 : decode cX0_strengthOf 17 = .ok (.iconst 0, 1) := by decide +kernel
theorem dX0_strengthOf_18 : decode cX0_strengthOf 18 = .ok (.ireturn, 1) := by decide +kernel
theorem dX0_noteOf_0 : decode cX0_noteOf 0 = .ok (.aload_n 0, 1) := by decide +kernel
theorem dX0_noteOf_1 : decode cX0_noteOf 1 = .ok (.iload_n 1, 1) := by decide +kernel
theorem dX0_noteOf_2 : decode cX0_noteOf 2 = .ok (.invokevirtual 63, 3) := by decide +kernel
theorem dX0_noteOf_5 : decode cX0_noteOf 5 = .ok (.ifCond .eq 12, 3) := by decide +kernel
theorem dX0_noteOf_8 : decode cX0_noteOf 8 = .ok (.aload_n 0, 1) := by decide +kernel
theorem dX0_noteOf_9 : decode cX0_noteOf 9 = .ok (.getfield 18, 3) := by decide +kernel
theorem dX0_noteOf_12 : decode cX0_noteOf 12 = .ok (.iload_n 1, 1) := by decide +kernel
theorem dX0_noteOf_13 : decode cX0_noteOf 13 = .ok (.iaload, 1) := by decide +kernel
theorem dX0_noteOf_14 : decode cX0_noteOf 14 = .ok (.goto 4, 3) := by decide +kernel
theorem dX0_noteOf_17 : decode cX0_noteOf 17 = .ok (.iconst 0, 1) := by decide +kernel
theorem dX0_noteOf_18 : decode cX0_noteOf 18 = .ok (.ireturn, 1) := by decide +kernel
theorem dX0_lightnessOf_0 : decode cX0_lightnessOf 0 = .ok (.aload_n 0, 1) := by decide +kernel
theorem dX0_lightnessOf_1 : decode cX0_lightnessOf 1 = .ok (.iload_n 1, 1) := by decide +kernel
theorem dX0_lightnessOf_2 : decode cX0_lightnessOf 2 = .ok (.invokevirtual 63, 3) := by decide +kernel
theorem dX0_lightnessOf_5 : decode cX0_lightnessOf 5 = .ok (.ifCond .eq 12, 3) := by decide +kernel
theorem dX0_lightnessOf_8 : decode cX0_lightnessOf 8 = .ok (.aload_n 0, 1) := by decide +kernel
theorem dX0_lightnessOf_9 : decode cX0_lightnessOf 9 = .ok (.getfield 21, 3) := by decide +kernel
theorem dX0_lightnessOf_12 : decode cX0_lightnessOf 12 = .ok (.iload_n 1, 1) := by decide +kernel
theorem dX0_lightnessOf_13 : decode cX0_lightnessOf 13 = .ok (.iaload, 1) := by decide +kernel
theorem dX0_lightnessOf_14 : decode cX0_lightnessOf 14 = .ok (.goto 4, 3) := by decide +kernel
theorem dX0_lightnessOf_17 : decode cX0_lightnessOf 17 = .ok (.iconst 0, 1) := by decide +kernel
theorem dX0_lightnessOf_18 : decode cX0_lightnessOf 18 = .ok (.ireturn, 1) := by decide +kernel
theorem dX0_firstPlaceOf_0 : decode cX0_firstPlaceOf 0 = .ok (.aload_n 0, 1) := by decide +kernel
theorem dX0_firstPlaceOf_1 : decode cX0_firstPlaceOf 1 = .ok (.iload_n 1, 1) := by decide +kernel
theorem dX0_firstPlaceOf_2 : decode cX0_firstPlaceOf 2 = .ok (.invokevirtual 63, 3) := by decide +kernel
theorem dX0_firstPlaceOf_5 : decode cX0_firstPlaceOf 5 = .ok (.ifCond .eq 12, 3) := by decide +kernel
theorem dX0_firstPlaceOf_8 : decode cX0_firstPlaceOf 8 = .ok (.aload_n 0, 1) := by decide +kernel
theorem dX0_firstPlaceOf_9 : decode cX0_firstPlaceOf 9 = .ok (.getfield 24, 3) := by decide +kernel
theorem dX0_firstPlaceOf_12 : decode cX0_firstPlaceOf 12 = .ok (.iload_n 1, 1) := by decide +kernel
theorem dX0_firstPlaceOf_13 : decode cX0_firstPlaceOf 13 = .ok (.iaload, 1) := by decide +kernel
theorem dX0_firstPlaceOf_14 : decode cX0_firstPlaceOf 14 = .ok (.goto 4, 3) := by decide +kernel
theorem dX0_firstPlaceOf_17 : decode cX0_firstPlaceOf 17 = .ok (.iconst 0, 1) := by decide +kernel
theorem dX0_firstPlaceOf_18 : decode cX0_firstPlaceOf 18 = .ok (.ireturn, 1) := by decide +kernel
theorem dX0_loudness_0 : decode cX0_loudness 0 = .ok (.aload_n 0, 1) := by decide +kernel
theorem dX0_loudness_1 : decode cX0_loudness 1 = .ok (.iload_n 1, 1) := by decide +kernel
theorem dX0_loudness_2 : decode cX0_loudness 2 = .ok (.invokevirtual 63, 3) := by decide +kernel
theorem dX0_loudness_5 : decode cX0_loudness 5 = .ok (.ifCond .ne 5, 3) := by decide +kernel
theorem dX0_loudness_8 : decode cX0_loudness 8 = .ok (.iconst 0, 1) := by decide +kernel
theorem dX0_loudness_9 : decode cX0_loudness 9 = .ok (.ireturn, 1) := by decide +kernel
theorem dX0_loudness_10 : decode cX0_loudness 10 = .ok (.aload_n 0, 1) := by decide +kernel
theorem dX0_loudness_11 : decode cX0_loudness 11 = .ok (.getfield 15, 3) := by decide +kernel
theorem dX0_loudness_14 : decode cX0_loudness 14 = .ok (.iload_n 1, 1) := by decide +kernel
theorem dX0_loudness_15 : decode cX0_loudness 15 = .ok (.iaload, 1) := by decide +kernel
theorem dX0_loudness_16 : decode cX0_loudness 16 = .ok (.istore_n 3, 1) := by decide +kernel
theorem dX0_loudness_17 : decode cX0_loudness 17 = .ok (.aload_n 0, 1) := by decide +kernel
theorem dX0_loudness_18 : decode cX0_loudness 18 = .ok (.getfield 9, 3) := by decide +kernel
theorem dX0_loudness_21 : decode cX0_loudness 21 = .ok (.iload_n 1, 1) := by decide +kernel
theorem dX0_loudness_22 : decode cX0_loudness 22 = .ok (.iaload, 1) := by decide +kernel
theorem dX0_loudness_23 : decode cX0_loudness 23 = .ok (.tableswitch 65 1 3 #[25, 39, 51], 25) := by decide +kernel
theorem dX0_loudness_48 : decode cX0_loudness 48 = .ok (.bipush 40, 2) := by decide +kernel
theorem dX0_loudness_50 : decode cX0_loudness 50 = .ok (.iload_n 3, 1) := by decide +kernel
theorem dX0_loudness_51 : decode cX0_loudness 51 = .ok (.iconst 2, 1) := by decide +kernel
theorem dX0_loudness_52 : decode cX0_loudness 52 = .ok (.bipush 7, 2) := by decide +kernel
theorem dX0_loudness_54 : decode cX0_loudness 54 = .ok (.iload_n 2, 1) := by decide +kernel
theorem dX0_loudness_55 : decode cX0_loudness 55 = .ok (.isub, 1) := by decide +kernel
theorem dX0_loudness_56 : decode cX0_loudness 56 = .ok (.imul, 1) := by decide +kernel
theorem dX0_loudness_57 : decode cX0_loudness 57 = .ok (.iadd, 1) := by decide +kernel
theorem dX0_loudness_58 : decode cX0_loudness 58 = .ok (.invokestatic 66, 3) := by decide +kernel
theorem dX0_loudness_61 : decode cX0_loudness 61 = .ok (.ireturn, 1) := by decide +kernel
theorem dX0_loudness_62 : decode cX0_loudness 62 = .ok (.iload_n 2, 1) := by decide +kernel
theorem dX0_loudness_63 : decode cX0_loudness 63 = .ok (.iconst 2, 1) := by decide +kernel
theorem dX0_loudness_64 : decode cX0_loudness 64 = .ok (.irem, 1) := by decide +kernel
theorem dX0_loudness_65 : decode cX0_loudness 65 = .ok (.ifCond .ne 7, 3) := by decide +kernel
theorem dX0_loudness_68 : decode cX0_loudness 68 = .ok (.iload_n 3, 1) := by decide +kernel
theorem dX0_loudness_69 : decode cX0_loudness 69 = .ok (.goto 4, 3) := by decide +kernel
theorem dX0_loudness_72 : decode cX0_loudness 72 = .ok (.iconst 0, 1) := by decide +kernel
theorem dX0_loudness_73 : decode cX0_loudness 73 = .ok (.ireturn, 1) := by decide +kernel
theorem dX0_loudness_74 : decode cX0_loudness 74 = .ok (.iload_n 2, 1) := by decide +kernel
theorem dX0_loudness_75 : decode cX0_loudness 75 = .ok (.iconst 2, 1) := by decide +kernel
theorem dX0_loudness_76 : decode cX0_loudness 76 = .ok (.if_icmp .gt 10, 3) := by decide +kernel
theorem dX0_loudness_79 : decode cX0_loudness 79 = .ok (.iload_n 3, 1) := by decide +kernel
theorem dX0_loudness_80 : decode cX0_loudness 80 = .ok (.bipush 10, 2) := by decide +kernel
theorem dX0_loudness_82 : decode cX0_loudness 82 = .ok (.iadd, 1) := by decide +kernel
theorem dX0_loudness_83 : decode cX0_loudness 83 = .ok (.goto 4, 3) := by decide +kernel
theorem dX0_loudness_86 : decode cX0_loudness 86 = .ok (.iload_n 3, 1) := by decide +kernel
theorem dX0_loudness_87 : decode cX0_loudness 87 = .ok (.ireturn, 1) := by decide +kernel
theorem dX0_loudness_88 : decode cX0_loudness 88 = .ok (.iload_n 3, 1) := by decide +kernel
theorem dX0_loudness_89 : decode cX0_loudness 89 = .ok (.ireturn, 1) := by decide +kernel
theorem dX0_areHumming_0 : decode cX0_areHumming 0 = .ok (.aload_n 0, 1) := by decide +kernel
theorem dX0_areHumming_1 : decode cX0_areHumming 1 = .ok (.iload_n 1, 1) := by decide +kernel
theorem dX0_areHumming_2 : decode cX0_areHumming 2 = .ok (.invokevirtual 63, 3) := by decide +kernel
theorem dX0_areHumming_5 : decode cX0_areHumming 5 = .ok (.ifCond .eq 11, 3) := by decide +kernel
theorem dX0_areHumming_8 : decode cX0_areHumming 8 = .ok (.aload_n 0, 1) := by decide +kernel
theorem dX0_areHumming_9 : decode cX0_areHumming 9 = .ok (.iload_n 2, 1) := by decide +kernel
theorem dX0_areHumming_10 : decode cX0_areHumming 10 = .ok (.invokevirtual 63, 3) := by decide +kernel
theorem dX0_areHumming_13 : decode cX0_areHumming 13 = .ok (.ifCond .ne 5, 3) := by decide +kernel
theorem dX0_areHumming_16 : decode cX0_areHumming 16 = .ok (.iconst 0, 1) := by decide +kernel
theorem dX0_areHumming_17 : decode cX0_areHumming 17 = .ok (.ireturn, 1) := by decide +kernel
theorem dX0_areHumming_18 : decode cX0_areHumming 18 = .ok (.aload_n 0, 1) := by decide +kernel
theorem dX0_areHumming_19 : decode cX0_areHumming 19 = .ok (.getfield 18, 3) := by decide +kernel
theorem dX0_areHumming_22 : decode cX0_areHumming 22 = .ok (.iload_n 1, 1) := by decide +kernel
theorem dX0_areHumming_23 : decode cX0_areHumming 23 = .ok (.iaload, 1) := by decide +kernel
theorem dX0_areHumming_24 : decode cX0_areHumming 24 = .ok (.aload_n 0, 1) := by decide +kernel
theorem dX0_areHumming_25 : decode cX0_areHumming 25 = .ok (.getfield 18, 3) := by decide +kernel
theorem dX0_areHumming_28 : decode cX0_areHumming 28 = .ok (.iload_n 2, 1) := by decide +kernel
theorem dX0_areHumming_29 : decode cX0_areHumming 29 = .ok (.iaload, 1) := by decide +kernel
theorem dX0_areHumming_30 : decode cX0_areHumming 30 = .ok (.isub, 1) := by decide +kernel
theorem dX0_areHumming_31 : decode cX0_areHumming 31 = .ok (.invokestatic 72, 3) := by decide +kernel
theorem dX0_areHumming_34 : decode cX0_areHumming 34 = .ok (.aload_n 0, 1) := by decide +kernel
theorem dX0_areHumming_35 : decode cX0_areHumming 35 = .ok (.getfield 34, 3) := by decide +kernel
theorem dX0_areHumming_38 : decode cX0_areHumming 38 = .ok (.if_icmp .eq 23, 3) := by decide +kernel
theorem dX0_areHumming_41 : decode cX0_areHumming 41 = .ok (.aload_n 0, 1) := by decide +kernel
theorem dX0_areHumming_42 : decode cX0_areHumming 42 = .ok (.getfield 18, 3) := by decide +kernel
theorem dX0_areHumming_45 : decode cX0_areHumming 45 = .ok (.iload_n 1, 1) := by decide +kernel
theorem dX0_areHumming_46 : decode cX0_areHumming 46 = .ok (.iaload, 1) := by decide +kernel
theorem dX0_areHumming_47 : decode cX0_areHumming 47 = .ok (.aload_n 0, 1) := by decide +kernel
theorem dX0_areHumming_48 : decode cX0_areHumming 48 = .ok (.getfield 18, 3) := by decide +kernel
theorem dX0_areHumming_51 : decode cX0_areHumming 51 = .ok (.iload_n 2, 1) := by decide +kernel
theorem dX0_areHumming_52 : decode cX0_areHumming 52 = .ok (.iaload, 1) := by decide +kernel
theorem dX0_areHumming_53 : decode cX0_areHumming 53 = .ok (.iadd, 1) := by decide +kernel
theorem dX0_areHumming_54 : decode cX0_areHumming 54 = .ok (.aload_n 0, 1) := by decide +kernel
theorem dX0_areHumming_55 : decode cX0_areHumming 55 = .ok (.getfield 34, 3) := by decide +kernel
theorem dX0_areHumming_58 : decode cX0_areHumming 58 = .ok (.if_icmp .ne 7, 3) := by decide +kernel
theorem dX0_areHumming_61 : decode cX0_areHumming 61 = .ok (.iconst 1, 1) := by decide +kernel
theorem dX0_areHumming_62 : decode cX0_areHumming 62 = .ok (.goto 4, 3) := by decide +kernel
theorem dX0_areHumming_65 : decode cX0_areHumming 65 = .ok (.iconst 0, 1) := by decide +kernel
theorem dX0_areHumming_66 : decode cX0_areHumming 66 = .ok (.ireturn, 1) := by decide +kernel
theorem dX0_soundOf_0 : decode cX0_soundOf 0 = .ok (.aload_n 0, 1) := by decide +kernel
theorem dX0_soundOf_1 : decode cX0_soundOf 1 = .ok (.iload_n 1, 1) := by decide +kernel
theorem dX0_soundOf_2 : decode cX0_soundOf 2 = .ok (.iload 4, 2) := by decide +kernel
theorem dX0_soundOf_4 : decode cX0_soundOf 4 = .ok (.invokevirtual 76, 3) := by decide +kernel
theorem dX0_soundOf_7 : decode cX0_soundOf 7 = .ok (.istore 5, 2) := by decide +kernel
theorem dX0_soundOf_9 : decode cX0_soundOf 9 = .ok (.aload_n 3, 1) := by decide +kernel
theorem dX0_soundOf_10 : decode cX0_soundOf 10 = .ok (.aload_n 3, 1) := by decide +kernel
theorem dX0_soundOf_11 : decode cX0_soundOf 11 = .ok (.iload_n 1, 1) := by decide +kernel
theorem dX0_soundOf_12 : decode cX0_soundOf 12 = .ok (.invokevirtual 79, 3) := by decide +kernel
theorem dX0_soundOf_15 : decode cX0_soundOf 15 = .ok (.aload_n 3, 1) := by decide +kernel
theorem dX0_soundOf_16 : decode cX0_soundOf 16 = .ok (.iload_n 2, 1) := by decide +kernel
theorem dX0_soundOf_17 : decode cX0_soundOf 17 = .ok (.invokevirtual 79, 3) := by decide +kernel
theorem dX0_soundOf_20 : decode cX0_soundOf 20 = .ok (.invokestatic 66, 3) := by decide +kernel
theorem dX0_soundOf_23 : decode cX0_soundOf 23 = .ok (.invokevirtual 84, 3) := by decide +kernel
theorem dX0_soundOf_26 : decode cX0_soundOf 26 = .ok (.ifCond .eq 9, 3) := by decide +kernel
theorem dX0_soundOf_29 : decode cX0_soundOf 29 = .ok (.iload 5, 2) := by decide +kernel
theorem dX0_soundOf_31 : decode cX0_soundOf 31 = .ok (.iconst 2, 1) := by decide +kernel
theorem dX0_soundOf_32 : decode cX0_soundOf 32 = .ok (.idiv, 1) := by decide +kernel
theorem dX0_soundOf_33 : decode cX0_soundOf 33 = .ok (.istore 5, 2) := by decide +kernel
theorem dX0_soundOf_35 : decode cX0_soundOf 35 = .ok (.aload_n 0, 1) := by decide +kernel
theorem dX0_soundOf_36 : decode cX0_soundOf 36 = .ok (.iload_n 1, 1) := by decide +kernel
theorem dX0_soundOf_37 : decode cX0_soundOf 37 = .ok (.iload_n 2, 1) := by decide +kernel
theorem dX0_soundOf_38 : decode cX0_soundOf 38 = .ok (.invokevirtual 87, 3) := by decide +kernel
theorem dX0_soundOf_41 : decode cX0_soundOf 41 = .ok (.ifCond .eq 10, 3) := by decide +kernel
theorem dX0_soundOf_44 : decode cX0_soundOf 44 = .ok (.iload 5, 2) := by decide +kernel
theorem dX0_soundOf_46 : decode cX0_soundOf 46 = .ok (.iconst 4, 1) := by decide +kernel
theorem dX0_soundOf_47 : decode cX0_soundOf 47 = .ok (.iadd, 1) := by decide +kernel
theorem dX0_soundOf_48 : decode cX0_soundOf 48 = .ok (.goto 5, 3) := by decide +kernel
theorem dX0_soundOf_51 : decode cX0_soundOf 51 = .ok (.iload 5, 2) := by decide +kernel
theorem dX0_soundOf_53 : decode cX0_soundOf 53 = .ok (.ireturn, 1) := by decide +kernel
theorem dX0_hearing_0 : decode cX0_hearing 0 = .ok (.iconst 0, 1) := by decide +kernel
theorem dX0_hearing_1 : decode cX0_hearing 1 = .ok (.istore 4, 2) := by decide +kernel
theorem dX0_hearing_3 : decode cX0_hearing 3 = .ok (.iconst 0, 1) := by decide +kernel
theorem dX0_hearing_4 : decode cX0_hearing 4 = .ok (.istore 5, 2) := by decide +kernel
theorem dX0_hearing_6 : decode cX0_hearing 6 = .ok (.iload 5, 2) := by decide +kernel
theorem dX0_hearing_8 : decode cX0_hearing 8 = .ok (.aload_n 0, 1) := by decide +kernel
theorem dX0_hearing_9 : decode cX0_hearing 9 = .ok (.getfield 37, 3) := by decide +kernel
theorem dX0_hearing_12 : decode cX0_hearing 12 = .ok (.if_icmp .ge 33, 3) := by decide +kernel
theorem dX0_hearing_15 : decode cX0_hearing 15 = .ok (.aload_n 2, 1) := by decide +kernel
theorem dX0_hearing_16 : decode cX0_hearing 16 = .ok (.iload_n 1, 1) := by decide +kernel
theorem dX0_hearing_17 : decode cX0_hearing 17 = .ok (.iload 5, 2) := by decide +kernel
theorem dX0_hearing_19 : decode cX0_hearing 19 = .ok (.invokevirtual 91, 3) := by decide +kernel
theorem dX0_hearing_22 : decode cX0_hearing 22 = .ok (.ifCond .eq 17, 3) := by decide +kernel
theorem dX0_hearing_25 : decode cX0_hearing 25 = .ok (.iload 4, 2) := by decide +kernel
theorem dX0_hearing_27 : decode cX0_hearing 27 = .ok (.aload_n 0, 1) := by decide +kernel
theorem dX0_hearing_28 : decode cX0_hearing 28 = .ok (.iload 5, 2) := by decide +kernel
theorem dX0_hearing_30 : decode cX0_hearing 30 = .ok (.iload_n 1, 1) := by decide +kernel
theorem dX0_hearing_31 : decode cX0_hearing 31 = .ok (.aload_n 2, 1) := by decide +kernel
theorem dX0_hearing_32 : decode cX0_hearing 32 = .ok (.iload_n 3, 1) := by decide +kernel
theorem dX0_hearing_33 : decode cX0_hearing 33 = .ok (.invokevirtual 94, 3) := by decide +kernel
theorem dX0_hearing_36 : decode cX0_hearing 36 = .ok (.iadd, 1) := by decide +kernel
theorem dX0_hearing_37 : decode cX0_hearing 37 = .ok (.istore 4, 2) := by decide +kernel
theorem dX0_hearing_39 : decode cX0_hearing 39 = .ok (.iinc 5 1, 3) := by decide +kernel
theorem dX0_hearing_42 : decode cX0_hearing 42 = .ok (.goto (-36), 3) := by decide +kernel
theorem dX0_hearing_45 : decode cX0_hearing 45 = .ok (.iload 4, 2) := by decide +kernel
theorem dX0_hearing_47 : decode cX0_hearing 47 = .ok (.ireturn, 1) := by decide +kernel
theorem dX0_isWoken_0 : decode cX0_isWoken 0 = .ok (.aload_n 0, 1) := by decide +kernel
theorem dX0_isWoken_1 : decode cX0_isWoken 1 = .ok (.iload_n 1, 1) := by decide +kernel
theorem dX0_isWoken_2 : decode cX0_isWoken 2 = .ok (.aload_n 2, 1) := by decide +kernel
theorem dX0_isWoken_3 : decode cX0_isWoken 3 = .ok (.iload_n 3, 1) := by decide +kernel
theorem dX0_isWoken_4 : decode cX0_isWoken 4 = .ok (.invokevirtual 98, 3) := by decide +kernel
theorem dX0_isWoken_7 : decode cX0_isWoken 7 = .ok (.aload_n 0, 1) := by decide +kernel
theorem dX0_isWoken_8 : decode cX0_isWoken 8 = .ok (.iload_n 1, 1) := by decide +kernel
theorem dX0_isWoken_9 : decode cX0_isWoken 9 = .ok (.invokevirtual 102, 3) := by decide +kernel
theorem dX0_isWoken_12 : decode cX0_isWoken 12 = .ok (.if_icmp .lt 7, 3) := by decide +kernel
theorem dX0_isWoken_15 : decode cX0_isWoken 15 = .ok (.iconst 1, 1) := by decide +kernel
theorem dX0_isWoken_16 : decode cX0_isWoken 16 = .ok (.goto 4, 3) := by decide +kernel
theorem dX0_isWoken_19 : decode cX0_isWoken 19 = .ok (.iconst 0, 1) := by decide +kernel
theorem dX0_isWoken_20 : decode cX0_isWoken 20 = .ok (.ireturn, 1) := by decide +kernel
theorem dX0_wakers_0 : decode cX0_wakers 0 = .ok (.iconst 0, 1) := by decide +kernel
theorem dX0_wakers_1 : decode cX0_wakers 1 = .ok (.istore_n 3, 1) := by decide +kernel
theorem dX0_wakers_2 : decode cX0_wakers 2 = .ok (.iconst 0, 1) := by decide +kernel
theorem dX0_wakers_3 : decode cX0_wakers 3 = .ok (.istore 4, 2) := by decide +kernel
theorem dX0_wakers_5 : decode cX0_wakers 5 = .ok (.iload 4, 2) := by decide +kernel
theorem dX0_wakers_7 : decode cX0_wakers 7 = .ok (.aload_n 0, 1) := by decide +kernel
theorem dX0_wakers_8 : decode cX0_wakers 8 = .ok (.getfield 37, 3) := by decide +kernel
theorem dX0_wakers_11 : decode cX0_wakers 11 = .ok (.if_icmp .ge 40, 3) := by decide +kernel
theorem dX0_wakers_14 : decode cX0_wakers 14 = .ok (.iload 4, 2) := by decide +kernel
theorem dX0_wakers_16 : decode cX0_wakers 16 = .ok (.iconst 5, 1) := by decide +kernel
theorem dX0_wakers_17 : decode cX0_wakers 17 = .ok (.if_icmp .ge 34, 3) := by decide +kernel
theorem dX0_wakers_20 : decode cX0_wakers 20 = .ok (.aload_n 0, 1) := by decide +kernel
theorem dX0_wakers_21 : decode cX0_wakers 21 = .ok (.iload 4, 2) := by decide +kernel
theorem dX0_wakers_23 : decode cX0_wakers 23 = .ok (.aload_n 1, 1) := by decide +kernel
theorem dX0_wakers_24 : decode cX0_wakers 24 = .ok (.iload_n 2, 1) := by decide +kernel
theorem dX0_wakers_25 : decode cX0_wakers 25 = .ok (.invokevirtual 98, 3) := by decide +kernel
theorem dX0_wakers_28 : decode cX0_wakers 28 = .ok (.aload_n 0, 1) := by decide +kernel
theorem dX0_wakers_29 : decode cX0_wakers 29 = .ok (.getfield 21, 3) := by decide +kernel
theorem dX0_wakers_32 : decode cX0_wakers 32 = .ok (.iload 4, 2) := by decide +kernel
theorem dX0_wakers_34 : decode cX0_wakers 34 = .ok (.iaload, 1) := by decide +kernel
theorem dX0_wakers_35 : decode cX0_wakers 35 = .ok (.if_icmp .lt 10, 3) := by decide +kernel
theorem dX0_wakers_38 : decode cX0_wakers 38 = .ok (.iload_n 3, 1) := by decide +kernel
theorem dX0_wakers_39 : decode cX0_wakers 39 = .ok (.iconst 1, 1) := by decide +kernel
theorem dX0_wakers_40 : decode cX0_wakers 40 = .ok (.iload 4, 2) := by decide +kernel
theorem dX0_wakers_42 : decode cX0_wakers 42 = .ok (.ishl, 1) := by decide +kernel
theorem dX0_wakers_43 : decode cX0_wakers 43 = .ok (.ior, 1) := by decide +kernel
theorem dX0_wakers_44 : decode cX0_wakers 44 = .ok (.istore_n 3, 1) := by decide +kernel
theorem dX0_wakers_45 : decode cX0_wakers 45 = .ok (.iinc 4 1, 3) := by decide +kernel
theorem dX0_wakers_48 : decode cX0_wakers 48 = .ok (.goto (-43), 3) := by decide +kernel
theorem dX0_wakers_51 : decode cX0_wakers 51 = .ok (.iload_n 3, 1) := by decide +kernel
theorem dX0_wakers_52 : decode cX0_wakers 52 = .ok (.ireturn, 1) := by decide +kernel
theorem dX0_wakingsOfNight_0 : decode cX0_wakingsOfNight 0 = .ok (.iconst 0, 1) := by decide +kernel
theorem dX0_wakingsOfNight_1 : decode cX0_wakingsOfNight 1 = .ok (.istore_n 2, 1) := by decide +kernel
theorem dX0_wakingsOfNight_2 : decode cX0_wakingsOfNight 2 = .ok (.iconst 0, 1) := by decide +kernel
theorem dX0_wakingsOfNight_3 : decode cX0_wakingsOfNight 3 = .ok (.istore_n 3, 1) := by decide +kernel
theorem dX0_wakingsOfNight_4 : decode cX0_wakingsOfNight 4 = .ok (.iload_n 3, 1) := by decide +kernel
theorem dX0_wakingsOfNight_5 : decode cX0_wakingsOfNight 5 = .ok (.bipush 7, 2) := by decide +kernel
theorem dX0_wakingsOfNight_7 : decode cX0_wakingsOfNight 7 = .ok (.if_icmp .gt 21, 3) := by decide +kernel
theorem dX0_wakingsOfNight_10 : decode cX0_wakingsOfNight 10 = .ok (.iload_n 2, 1) := by decide +kernel
theorem dX0_wakingsOfNight_11 : decode cX0_wakingsOfNight 11 = .ok (.aload_n 0, 1) := by decide +kernel
theorem dX0_wakingsOfNight_12 : decode cX0_wakingsOfNight 12 = .ok (.aload_n 1, 1) := by decide +kernel
theorem dX0_wakingsOfNight_13 : decode cX0_wakingsOfNight 13 = .ok (.iload_n 3, 1) := by decide +kernel
theorem dX0_wakingsOfNight_14 : decode cX0_wakingsOfNight 14 = .ok (.invokevirtual 105, 3) := by decide +kernel
theorem dX0_wakingsOfNight_17 : decode cX0_wakingsOfNight 17 = .ok (.invokestatic 109, 3) := by decide +kernel
theorem dX0_wakingsOfNight_20 : decode cX0_wakingsOfNight 20 = .ok (.iadd, 1) := by decide +kernel
theorem dX0_wakingsOfNight_21 : decode cX0_wakingsOfNight 21 = .ok (.istore_n 2, 1) := by decide +kernel
theorem dX0_wakingsOfNight_22 : decode cX0_wakingsOfNight 22 = .ok (.iinc 3 1, 3) := by decide +kernel
theorem dX0_wakingsOfNight_25 : decode cX0_wakingsOfNight 25 = .ok (.goto (-21), 3) := by decide +kernel
theorem dX0_wakingsOfNight_28 : decode cX0_wakingsOfNight 28 = .ok (.iload_n 2, 1) := by decide +kernel
theorem dX0_wakingsOfNight_29 : decode cX0_wakingsOfNight 29 = .ok (.ireturn, 1) := by decide +kernel
theorem dX0_nextHummers_0 : decode cX0_nextHummers 0 = .ok (.iconst 0, 1) := by decide +kernel
theorem dX0_nextHummers_1 : decode cX0_nextHummers 1 = .ok (.istore_n 3, 1) := by decide +kernel
theorem dX0_nextHummers_2 : decode cX0_nextHummers 2 = .ok (.iconst 0, 1) := by decide +kernel
theorem dX0_nextHummers_3 : decode cX0_nextHummers 3 = .ok (.istore 4, 2) := by decide +kernel
theorem dX0_nextHummers_5 : decode cX0_nextHummers 5 = .ok (.iload 4, 2) := by decide +kernel
theorem dX0_nextHummers_7 : decode cX0_nextHummers 7 = .ok (.aload_n 0, 1) := by decide +kernel
theorem dX0_nextHummers_8 : decode cX0_nextHummers 8 = .ok (.getfield 37, 3) := by decide +kernel
theorem dX0_nextHummers_11 : decode cX0_nextHummers 11 = .ok (.if_icmp .ge 36, 3) := by decide +kernel
theorem dX0_nextHummers_14 : decode cX0_nextHummers 14 = .ok (.aload_n 2, 1) := by decide +kernel
theorem dX0_nextHummers_15 : decode cX0_nextHummers 15 = .ok (.iload_n 1, 1) := by decide +kernel
theorem dX0_nextHummers_16 : decode cX0_nextHummers 16 = .ok (.iload 4, 2) := by decide +kernel
theorem dX0_nextHummers_18 : decode cX0_nextHummers 18 = .ok (.invokevirtual 91, 3) := by decide +kernel
theorem dX0_nextHummers_21 : decode cX0_nextHummers 21 = .ok (.ifCond .eq 20, 3) := by decide +kernel
theorem dX0_nextHummers_24 : decode cX0_nextHummers 24 = .ok (.aload_n 0, 1) := by decide +kernel
theorem dX0_nextHummers_25 : decode cX0_nextHummers 25 = .ok (.iload_n 1, 1) := by decide +kernel
theorem dX0_nextHummers_26 : decode cX0_nextHummers 26 = .ok (.iload 4, 2) := by decide +kernel
theorem dX0_nextHummers_28 : decode cX0_nextHummers 28 = .ok (.invokevirtual 87, 3) := by decide +kernel
theorem dX0_nextHummers_31 : decode cX0_nextHummers 31 = .ok (.ifCond .eq 10, 3) := by decide +kernel
theorem dX0_nextHummers_34 : decode cX0_nextHummers 34 = .ok (.iload_n 3, 1) := by decide +kernel
theorem dX0_nextHummers_35 : decode cX0_nextHummers 35 = .ok (.iconst 1, 1) := by decide +kernel
theorem dX0_nextHummers_36 : decode cX0_nextHummers 36 = .ok (.iload 4, 2) := by decide +kernel
theorem dX0_nextHummers_38 : decode cX0_nextHummers 38 = .ok (.ishl, 1) := by decide +kernel
theorem dX0_nextHummers_39 : decode cX0_nextHummers 39 = .ok (.ior, 1) := by decide +kernel
theorem dX0_nextHummers_40 : decode cX0_nextHummers 40 = .ok (.istore_n 3, 1) := by decide +kernel
theorem dX0_nextHummers_41 : decode cX0_nextHummers 41 = .ok (.iinc 4 1, 3) := by decide +kernel
theorem dX0_nextHummers_44 : decode cX0_nextHummers 44 = .ok (.goto (-39), 3) := by decide +kernel
theorem dX0_nextHummers_47 : decode cX0_nextHummers 47 = .ok (.iload_n 3, 1) := by decide +kernel
theorem dX0_nextHummers_48 : decode cX0_nextHummers 48 = .ok (.ireturn, 1) := by decide +kernel
theorem dX0_isRousedByPorters_0 : decode cX0_isRousedByPorters 0 = .ok (.aload_n 0, 1) := by decide +kernel
theorem dX0_isRousedByPorters_1 : decode cX0_isRousedByPorters 1 = .ok (.iload_n 1, 1) := by decide +kernel
theorem dX0_isRousedByPorters_2 : decode cX0_isRousedByPorters 2 = .ok (.invokevirtual 102, 3) := by decide +kernel
theorem dX0_isRousedByPorters_5 : decode cX0_isRousedByPorters 5 = .ok (.aload_n 0, 1) := by decide +kernel
theorem dX0_isRousedByPorters_6 : decode cX0_isRousedByPorters 6 = .ok (.getfield 31, 3) := by decide +kernel
theorem dX0_isRousedByPorters_9 : decode cX0_isRousedByPorters 9 = .ok (.if_icmp .gt 7, 3) := by decide +kernel
theorem dX0_isRousedByPorters_12 : decode cX0_isRousedByPorters 12 = .ok (.iconst 1, 1) := by decide +kernel
theorem dX0_isRousedByPorters_13 : decode cX0_isRousedByPorters 13 = .ok (.goto 4, 3) := by decide +kernel
theorem dX0_isRousedByPorters_16 : decode cX0_isRousedByPorters 16 = .ok (.iconst 0, 1) := by decide +kernel
theorem dX0_isRousedByPorters_17 : decode cX0_isRousedByPorters 17 = .ok (.ireturn, 1) := by decide +kernel
theorem dX0_roused_0 : decode cX0_roused 0 = .ok (.aload_n 3, 1) := by decide +kernel
theorem dX0_roused_1 : decode cX0_roused 1 = .ok (.iload_n 1, 1) := by decide +kernel
theorem dX0_roused_2 : decode cX0_roused 2 = .ok (.invokevirtual 79, 3) := by decide +kernel
theorem dX0_roused_5 : decode cX0_roused 5 = .ok (.iload_n 2, 1) := by decide +kernel
theorem dX0_roused_6 : decode cX0_roused 6 = .ok (.invokestatic 66, 3) := by decide +kernel
theorem dX0_roused_9 : decode cX0_roused 9 = .ok (.istore 4, 2) := by decide +kernel
theorem dX0_roused_11 : decode cX0_roused 11 = .ok (.aload_n 3, 1) := by decide +kernel
theorem dX0_roused_12 : decode cX0_roused 12 = .ok (.iload_n 1, 1) := by decide +kernel
theorem dX0_roused_13 : decode cX0_roused 13 = .ok (.invokevirtual 79, 3) := by decide +kernel
theorem dX0_roused_16 : decode cX0_roused 16 = .ok (.iload_n 2, 1) := by decide +kernel
theorem dX0_roused_17 : decode cX0_roused 17 = .ok (.invokestatic 114, 3) := by decide +kernel
theorem dX0_roused_20 : decode cX0_roused 20 = .ok (.istore 5, 2) := by decide +kernel
theorem dX0_roused_22 : decode cX0_roused 22 = .ok (.iconst 0, 1) := by decide +kernel
theorem dX0_roused_23 : decode cX0_roused 23 = .ok (.istore 6, 2) := by decide +kernel
theorem dX0_roused_25 : decode cX0_roused 25 = .ok (.iconst 0, 1) := by decide +kernel
theorem dX0_roused_26 : decode cX0_roused 26 = .ok (.istore 7, 2) := by decide +kernel
theorem dX0_roused_28 : decode cX0_roused 28 = .ok (.iload 7, 2) := by decide +kernel
theorem dX0_roused_30 : decode cX0_roused 30 = .ok (.aload_n 0, 1) := by decide +kernel
theorem dX0_roused_31 : decode cX0_roused 31 = .ok (.getfield 37, 3) := by decide +kernel
theorem dX0_roused_34 : decode cX0_roused 34 = .ok (.if_icmp .ge 49, 3) := by decide +kernel
theorem dX0_roused_37 : decode cX0_roused 37 = .ok (.aload_n 3, 1) := by decide +kernel
theorem dX0_roused_38 : decode cX0_roused 38 = .ok (.iload 7, 2) := by decide +kernel
theorem dX0_roused_40 : decode cX0_roused 40 = .ok (.invokevirtual 79, 3) := by decide +kernel
theorem dX0_roused_43 : decode cX0_roused 43 = .ok (.istore 8, 2) := by decide +kernel
theorem dX0_roused_45 : decode cX0_roused 45 = .ok (.iload 8, 2) := by decide +kernel
theorem dX0_roused_47 : decode cX0_roused 47 = .ok (.iload 4, 2) := by decide +kernel
theorem dX0_roused_49 : decode cX0_roused 49 = .ok (.if_icmp .le 28, 3) := by decide +kernel
theorem dX0_roused_52 : decode cX0_roused 52 = .ok (.iload 8, 2) := by decide +kernel
theorem dX0_roused_54 : decode cX0_roused 54 = .ok (.iload 5, 2) := by decide +kernel
theorem dX0_roused_56 : decode cX0_roused 56 = .ok (.if_icmp .ge 21, 3) := by decide +kernel
theorem dX0_roused_59 : decode cX0_roused 59 = .ok (.aload_n 0, 1) := by decide +kernel
theorem dX0_roused_60 : decode cX0_roused 60 = .ok (.iload 7, 2) := by decide +kernel
theorem dX0_roused_62 : decode cX0_roused 62 = .ok (.invokevirtual 117, 3) := by decide +kernel
theorem dX0_roused_65 : decode cX0_roused 65 = .ok (.ifCond .eq 12, 3) := by decide +kernel
theorem dX0_roused_68 : decode cX0_roused 68 = .ok (.iload 6, 2) := by decide +kernel
theorem dX0_roused_70 : decode cX0_roused 70 = .ok (.iconst 1, 1) := by decide +kernel
theorem dX0_roused_71 : decode cX0_roused 71 = .ok (.iload 7, 2) := by decide +kernel
theorem dX0_roused_73 : decode cX0_roused 73 = .ok (.ishl, 1) := by decide +kernel
theorem dX0_roused_74 : decode cX0_roused 74 = .ok (.ior, 1) := by decide +kernel
theorem dX0_roused_75 : decode cX0_roused 75 = .ok (.istore 6, 2) := by decide +kernel
theorem dX0_roused_77 : decode cX0_roused 77 = .ok (.iinc 7 1, 3) := by decide +kernel
theorem dX0_roused_80 : decode cX0_roused 80 = .ok (.goto (-52), 3) := by decide +kernel
theorem dX0_roused_83 : decode cX0_roused 83 = .ok (.iload 6, 2) := by decide +kernel
theorem dX0_roused_85 : decode cX0_roused 85 = .ok (.ireturn, 1) := by decide +kernel
theorem dX0_isEven_0 : decode cX0_isEven 0 = .ok (.iconst 0, 1) := by decide +kernel
theorem dX0_isEven_1 : decode cX0_isEven 1 = .ok (.istore 4, 2) := by decide +kernel
theorem dX0_isEven_3 : decode cX0_isEven 3 = .ok (.iload 4, 2) := by decide +kernel
theorem dX0_isEven_5 : decode cX0_isEven 5 = .ok (.aload_n 0, 1) := by decide +kernel
theorem dX0_isEven_6 : decode cX0_isEven 6 = .ok (.getfield 37, 3) := by decide +kernel
theorem dX0_isEven_9 : decode cX0_isEven 9 = .ok (.if_icmp .ge 60, 3) := by decide +kernel
theorem dX0_isEven_12 : decode cX0_isEven 12 = .ok (.iconst 0, 1) := by decide +kernel
theorem dX0_isEven_13 : decode cX0_isEven 13 = .ok (.istore 5, 2) := by decide +kernel
theorem dX0_isEven_15 : decode cX0_isEven 15 = .ok (.iload 5, 2) := by decide +kernel
theorem dX0_isEven_17 : decode cX0_isEven 17 = .ok (.iload 4, 2) := by decide +kernel
theorem dX0_isEven_19 : decode cX0_isEven 19 = .ok (.if_icmp .ge 44, 3) := by decide +kernel
theorem dX0_isEven_22 : decode cX0_isEven 22 = .ok (.aload_n 1, 1) := by decide +kernel
theorem dX0_isEven_23 : decode cX0_isEven 23 = .ok (.iload 4, 2) := by decide +kernel
theorem dX0_isEven_25 : decode cX0_isEven 25 = .ok (.iload 5, 2) := by decide +kernel
theorem dX0_isEven_27 : decode cX0_isEven 27 = .ok (.invokevirtual 91, 3) := by decide +kernel
theorem dX0_isEven_30 : decode cX0_isEven 30 = .ok (.ifCond .eq 27, 3) := by decide +kernel
theorem dX0_isEven_33 : decode cX0_isEven 33 = .ok (.aload_n 0, 1) := by decide +kernel
theorem dX0_isEven_34 : decode cX0_isEven 34 = .ok (.iload 4, 2) := by decide +kernel
theorem dX0_isEven_36 : decode cX0_isEven 36 = .ok (.iload_n 2, 1) := by decide +kernel
theorem dX0_isEven_37 : decode cX0_isEven 37 = .ok (.invokevirtual 76, 3) := by decide +kernel
theorem dX0_isEven_40 : decode cX0_isEven 40 = .ok (.aload_n 0, 1) := by decide +kernel
theorem dX0_isEven_41 : decode cX0_isEven 41 = .ok (.iload 5, 2) := by decide +kernel
theorem dX0_isEven_43 : decode cX0_isEven 43 = .ok (.iload_n 2, 1) := by decide +kernel
theorem dX0_isEven_44 : decode cX0_isEven 44 = .ok (.invokevirtual 76, 3) := by decide +kernel
theorem dX0_isEven_47 : decode cX0_isEven 47 = .ok (.isub, 1) := by decide +kernel
theorem dX0_isEven_48 : decode cX0_isEven 48 = .ok (.invokestatic 72, 3) := by decide +kernel
theorem dX0_isEven_51 : decode cX0_isEven 51 = .ok (.iload_n 3, 1) := by decide +kernel
theorem dX0_isEven_52 : decode cX0_isEven 52 = .ok (.if_icmp .le 5, 3) := by decide +kernel
theorem dX0_isEven_55 : decode cX0_isEven 55 = .ok (.iconst 0, 1) := by decide +kernel
theorem dX0_isEven_56 : decode cX0_isEven 56 = .ok (.ireturn, 1) := by decide +kernel
theorem dX0_isEven_57 : decode cX0_isEven 57 = .ok (.iinc 5 1, 3) := by decide +kernel
theorem dX0_isEven_60 : decode cX0_isEven 60 = .ok (.goto (-45), 3) := by decide +kernel
theorem dX0_isEven_63 : decode cX0_isEven 63 = .ok (.iinc 4 1, 3) := by decide +kernel
theorem dX0_isEven_66 : decode cX0_isEven 66 = .ok (.goto (-63), 3) := by decide +kernel
theorem dX0_isEven_69 : decode cX0_isEven 69 = .ok (.iconst 1, 1) := by decide +kernel
theorem dX0_isEven_70 : decode cX0_isEven 70 = .ok (.ireturn, 1) := by decide +kernel
theorem dX0_lawfulBed_0 : decode cX0_lawfulBed 0 = .ok (.iconst 0, 1) := by decide +kernel
theorem dX0_lawfulBed_1 : decode cX0_lawfulBed 1 = .ok (.istore_n 3, 1) := by decide +kernel
theorem dX0_lawfulBed_2 : decode cX0_lawfulBed 2 = .ok (.aload_n 0, 1) := by decide +kernel
theorem dX0_lawfulBed_3 : decode cX0_lawfulBed 3 = .ok (.iload_n 1, 1) := by decide +kernel
theorem dX0_lawfulBed_4 : decode cX0_lawfulBed 4 = .ok (.iload_n 2, 1) := by decide +kernel
theorem dX0_lawfulBed_5 : decode cX0_lawfulBed 5 = .ok (.invokevirtual 76, 3) := by decide +kernel
theorem dX0_lawfulBed_8 : decode cX0_lawfulBed 8 = .ok (.istore 4, 2) := by decide +kernel
theorem dX0_lawfulBed_10 : decode cX0_lawfulBed 10 = .ok (.iconst 0, 1) := by decide +kernel
theorem dX0_lawfulBed_11 : decode cX0_lawfulBed 11 = .ok (.istore 5, 2) := by decide +kernel
theorem dX0_lawfulBed_13 : decode cX0_lawfulBed 13 = .ok (.iload 5, 2) := by decide +kernel
theorem dX0_lawfulBed_15 : decode cX0_lawfulBed 15 = .ok (.aload_n 0, 1) := by decide +kernel
theorem dX0_lawfulBed_16 : decode cX0_lawfulBed 16 = .ok (.getfield 37, 3) := by decide +kernel
theorem dX0_lawfulBed_19 : decode cX0_lawfulBed 19 = .ok (.if_icmp .ge 41, 3) := by decide +kernel
theorem dX0_lawfulBed_22 : decode cX0_lawfulBed 22 = .ok (.aload_n 0, 1) := by decide +kernel
theorem dX0_lawfulBed_23 : decode cX0_lawfulBed 23 = .ok (.iload 5, 2) := by decide +kernel
theorem dX0_lawfulBed_25 : decode cX0_lawfulBed 25 = .ok (.iload_n 2, 1) := by decide +kernel
theorem dX0_lawfulBed_26 : decode cX0_lawfulBed 26 = .ok (.invokevirtual 76, 3) := by decide +kernel
theorem dX0_lawfulBed_29 : decode cX0_lawfulBed 29 = .ok (.istore 6, 2) := by decide +kernel
theorem dX0_lawfulBed_31 : decode cX0_lawfulBed 31 = .ok (.iload 6, 2) := by decide +kernel
theorem dX0_lawfulBed_33 : decode cX0_lawfulBed 33 = .ok (.iload 4, 2) := by decide +kernel
theorem dX0_lawfulBed_35 : decode cX0_lawfulBed 35 = .ok (.if_icmp .gt 16, 3) := by decide +kernel
theorem dX0_lawfulBed_38 : decode cX0_lawfulBed 38 = .ok (.iload 6, 2) := by decide +kernel
theorem dX0_lawfulBed_40 : decode cX0_lawfulBed 40 = .ok (.iload 4, 2) := by decide +kernel
theorem dX0_lawfulBed_42 : decode cX0_lawfulBed 42 = .ok (.if_icmp .ne 12, 3) := by decide +kernel
theorem dX0_lawfulBed_45 : decode cX0_lawfulBed 45 = .ok (.iload 5, 2) := by decide +kernel
theorem dX0_lawfulBed_47 : decode cX0_lawfulBed 47 = .ok (.iload_n 1, 1) := by decide +kernel
theorem dX0_lawfulBed_48 : decode cX0_lawfulBed 48 = .ok (.if_icmp .ge 6, 3) := by decide +kernel
theorem dX0_lawfulBed_51 : decode cX0_lawfulBed 51 = .ok (.iinc 3 1, 3) := by decide +kernel
theorem dX0_lawfulBed_54 : decode cX0_lawfulBed 54 = .ok (.iinc 5 1, 3) := by decide +kernel
theorem dX0_lawfulBed_57 : decode cX0_lawfulBed 57 = .ok (.goto (-44), 3) := by decide +kernel
theorem dX0_lawfulBed_60 : decode cX0_lawfulBed 60 = .ok (.iload_n 3, 1) := by decide +kernel
theorem dX0_lawfulBed_61 : decode cX0_lawfulBed 61 = .ok (.iconst 2, 1) := by decide +kernel
theorem dX0_lawfulBed_62 : decode cX0_lawfulBed 62 = .ok (.irem, 1) := by decide +kernel
theorem dX0_lawfulBed_63 : decode cX0_lawfulBed 63 = .ok (.ifCond .ne 9, 3) := by decide +kernel
theorem dX0_lawfulBed_66 : decode cX0_lawfulBed 66 = .ok (.iload_n 3, 1) := by decide +kernel
theorem dX0_lawfulBed_67 : decode cX0_lawfulBed 67 = .ok (.iconst 2, 1) := by decide +kernel
theorem dX0_lawfulBed_68 : decode cX0_lawfulBed 68 = .ok (.idiv, 1) := by decide +kernel
theorem dX0_lawfulBed_69 : decode cX0_lawfulBed 69 = .ok (.goto 13, 3) := by decide +kernel
theorem dX0_lawfulBed_72 : decode cX0_lawfulBed 72 = .ok (.aload_n 0, 1) := by decide +kernel
theorem dX0_lawfulBed_73 : decode cX0_lawfulBed 73 = .ok (.getfield 27, 3) := by decide +kernel
theorem dX0_lawfulBed_76 : decode cX0_lawfulBed 76 = .ok (.iconst 1, 1) := by decide +kernel
theorem dX0_lawfulBed_77 : decode cX0_lawfulBed 77 = .ok (.isub, 1) := by decide +kernel
theorem dX0_lawfulBed_78 : decode cX0_lawfulBed 78 = .ok (.iload_n 3, 1) := by decide +kernel
theorem dX0_lawfulBed_79 : decode cX0_lawfulBed 79 = .ok (.iconst 2, 1) := by decide +kernel
theorem dX0_lawfulBed_80 : decode cX0_lawfulBed 80 = .ok (.idiv, 1) := by decide +kernel
theorem dX0_lawfulBed_81 : decode cX0_lawfulBed 81 = .ok (.isub, 1) := by decide +kernel
theorem dX0_lawfulBed_82 : decode cX0_lawfulBed 82 = .ok (.ireturn, 1) := by decide +kernel
theorem dX1_init_0 : decode cX1_init 0 = .ok (.aload_n 0, 1) := by decide +kernel
theorem dX1_init_1 : decode cX1_init 1 = .ok (.invokespecial 3, 3) := by decide +kernel
theorem dX1_init_4 : decode cX1_init 4 = .ok (.aload_n 0, 1) := by decide +kernel
theorem dX1_init_5 : decode cX1_init 5 = .ok (.iconst 5, 1) := by decide +kernel
theorem dX1_init_6 : decode cX1_init 6 = .ok (.newarray .int, 2) := by decide +kernel
theorem dX1_init_8 : decode cX1_init 8 = .ok (.putfield 9, 3) := by decide +kernel
theorem dX1_init_11 : decode cX1_init 11 = .ok (.return_, 1) := by decide +kernel
theorem dX1_begin_0 : decode cX1_begin 0 = .ok (.iconst 0, 1) := by decide +kernel
theorem dX1_begin_1 : decode cX1_begin 1 = .ok (.istore_n 2, 1) := by decide +kernel
theorem dX1_begin_2 : decode cX1_begin 2 = .ok (.iload_n 2, 1) := by decide +kernel
theorem dX1_begin_3 : decode cX1_begin 3 = .ok (.iconst 5, 1) := by decide +kernel
theorem dX1_begin_4 : decode cX1_begin 4 = .ok (.if_icmp .ge 20, 3) := by decide +kernel
theorem dX1_begin_7 : decode cX1_begin 7 = .ok (.aload_n 0, 1) := by decide +kernel
theorem dX1_begin_8 : decode cX1_begin 8 = .ok (.getfield 9, 3) := by decide +kernel
theorem dX1_begin_11 : decode cX1_begin 11 = .ok (.iload_n 2, 1) := by decide +kernel
theorem dX1_begin_12 : decode cX1_begin 12 = .ok (.aload_n 1, 1) := by decide +kernel
theorem dX1_begin_13 : decode cX1_begin 13 = .ok (.iload_n 2, 1) := by decide +kernel
theorem dX1_begin_14 : decode cX1_begin 14 = .ok (.invokevirtual 15, 3) := by decide +kernel
theorem dX1_begin_17 : decode cX1_begin 17 = .ok (.iastore, 1) := by decide +kernel
theorem dX1_begin_18 : decode cX1_begin 18 = .ok (.iinc 2 1, 3) := by decide +kernel
theorem dX1_begin_21 : decode cX1_begin 21 = .ok (.goto (-19), 3) := by decide +kernel
theorem dX1_begin_24 : decode cX1_begin 24 = .ok (.aload_n 0, 1) := by decide +kernel
theorem dX1_begin_25 : decode cX1_begin 25 = .ok (.aload_n 1, 1) := by decide +kernel
theorem dX1_begin_26 : decode cX1_begin 26 = .ok (.invokevirtual 21, 3) := by decide +kernel
theorem dX1_begin_29 : decode cX1_begin 29 = .ok (.putfield 25, 3) := by decide +kernel
theorem dX1_begin_32 : decode cX1_begin 32 = .ok (.aload_n 0, 1) := by decide +kernel
theorem dX1_begin_33 : decode cX1_begin 33 = .ok (.iconst 0, 1) := by decide +kernel
theorem dX1_begin_34 : decode cX1_begin 34 = .ok (.putfield 28, 3) := by decide +kernel
theorem dX1_begin_37 : decode cX1_begin 37 = .ok (.aload_n 0, 1) := by decide +kernel
theorem dX1_begin_38 : decode cX1_begin 38 = .ok (.iconst 0, 1) := by decide +kernel
theorem dX1_begin_39 : decode cX1_begin 39 = .ok (.putfield 31, 3) := by decide +kernel
theorem dX1_begin_42 : decode cX1_begin 42 = .ok (.aload_n 0, 1) := by decide +kernel
theorem dX1_begin_43 : decode cX1_begin 43 = .ok (.iconst 0, 1) := by decide +kernel
theorem dX1_begin_44 : decode cX1_begin 44 = .ok (.putfield 34, 3) := by decide +kernel
theorem dX1_begin_47 : decode cX1_begin 47 = .ok (.aload_n 0, 1) := by decide +kernel
theorem dX1_begin_48 : decode cX1_begin 48 = .ok (.iconst 0, 1) := by decide +kernel
theorem dX1_begin_49 : decode cX1_begin 49 = .ok (.putfield 37, 3) := by decide +kernel
theorem dX1_begin_52 : decode cX1_begin 52 = .ok (.return_, 1) := by decide +kernel
theorem dX1_copy_0 : decode cX1_copy 0 = .ok (.aload_n 1, 1) := by decide +kernel
theorem dX1_copy_1 : decode cX1_copy 1 = .ok (.getfield 9, 3) := by decide +kernel
theorem dX1_copy_4 : decode cX1_copy 4 = .ok (.iconst 0, 1) := by decide +kernel
theorem dX1_copy_5 : decode cX1_copy 5 = .ok (.aload_n 0, 1) := by decide +kernel
theorem dX1_copy_6 : decode cX1_copy 6 = .ok (.getfield 9, 3) := by decide +kernel
theorem dX1_copy_9 : decode cX1_copy 9 = .ok (.iconst 0, 1) := by decide +kernel
theorem dX1_copy_10 : decode cX1_copy 10 = .ok (.iconst 5, 1) := by decide +kernel
theorem dX1_copy_11 : decode cX1_copy 11 = .ok (.invokestatic 40, 3) := by decide +kernel
theorem dX1_copy_14 : decode cX1_copy 14 = .ok (.aload_n 0, 1) := by decide +kernel
theorem dX1_copy_15 : decode cX1_copy 15 = .ok (.aload_n 1, 1) := by decide +kernel
theorem dX1_copy_16 : decode cX1_copy 16 = .ok (.getfield 25, 3) := by decide +kernel
theorem dX1_copy_19 : decode cX1_copy 19 = .ok (.putfield 25, 3) := by decide +kernel
theorem dX1_copy_22 : decode cX1_copy 22 = .ok (.aload_n 0, 1) := by decide +kernel
theorem dX1_copy_23 : decode cX1_copy 23 = .ok (.aload_n 1, 1) := by decide +kernel
theorem dX1_copy_24 : decode cX1_copy 24 = .ok (.getfield 28, 3) := by decide +kernel
theorem dX1_copy_27 : decode cX1_copy 27 = .ok (.putfield 28, 3) := by decide +kernel
theorem dX1_copy_30 : decode cX1_copy 30 = .ok (.aload_n 0, 1) := by decide +kernel
theorem dX1_copy_31 : decode cX1_copy 31 = .ok (.aload_n 1, 1) := by decide +kernel
theorem dX1_copy_32 : decode cX1_copy 32 = .ok (.getfield 31, 3) := by decide +kernel
theorem dX1_copy_35 : decode cX1_copy 35 = .ok (.putfield 31, 3) := by decide +kernel
theorem dX1_copy_38 : decode cX1_copy 38 = .ok (.aload_n 0, 1) := by decide +kernel
theorem dX1_copy_39 : decode cX1_copy 39 = .ok (.aload_n 1, 1) := by decide +kernel
theorem dX1_copy_40 : decode cX1_copy 40 = .ok (.getfield 34, 3) := by decide +kernel
theorem dX1_copy_43 : decode cX1_copy 43 = .ok (.putfield 34, 3) := by decide +kernel
theorem dX1_copy_46 : decode cX1_copy 46 = .ok (.aload_n 0, 1) := by decide +kernel
theorem dX1_copy_47 : decode cX1_copy 47 = .ok (.aload_n 1, 1) := by decide +kernel
theorem dX1_copy_48 : decode cX1_copy 48 = .ok (.getfield 37, 3) := by decide +kernel
theorem dX1_copy_51 : decode cX1_copy 51 = .ok (.putfield 37, 3) := by decide +kernel
theorem dX1_copy_54 : decode cX1_copy 54 = .ok (.return_, 1) := by decide +kernel
theorem dX1_save_0 : decode cX1_save 0 = .ok (.iload_n 2, 1) := by decide +kernel
theorem dX1_save_1 : decode cX1_save 1 = .ok (.ifCond .lt 12, 3) := by decide +kernel
theorem dX1_save_4 : decode cX1_save 4 = .ok (.iload_n 2, 1) := by decide +kernel
theorem dX1_save_5 : decode cX1_save 5 = .ok (.aload_n 1, 1) := by decide +kernel
theorem dX1_save_6 : decode cX1_save 6 = .ok (.arraylength, 1) := by decide +kernel
theorem dX1_save_7 : decode cX1_save 7 = .ok (.bipush 10, 2) := by decide +kernel
theorem dX1_save_9 : decode cX1_save 9 = .ok (.isub, 1) := by decide +kernel
theorem dX1_save_10 : decode cX1_save 10 = .ok (.if_icmp .le 4, 3) := by decide +kernel
theorem dX1_save_13 : decode cX1_save 13 = .ok (.return_, 1) := by decide +kernel
theorem dX1_save_14 : decode cX1_save 14 = .ok (.aload_n 0, 1) := by decide +kernel
theorem dX1_save_15 : decode cX1_save 15 = .ok (.getfield 9, 3) := by decide +kernel
theorem dX1_save_18 : decode cX1_save 18 = .ok (.iconst 0, 1) := by decide +kernel
theorem dX1_save_19 : decode cX1_save 19 = .ok (.aload_n 1, 1) := by decide +kernel
theorem dX1_save_20 : decode cX1_save 20 = .ok (.iload_n 2, 1) := by decide +kernel
theorem dX1_save_21 : decode cX1_save 21 = .ok (.iconst 5, 1) := by decide +kernel
theorem dX1_save_22 : decode cX1_save 22 = .ok (.invokestatic 40, 3) := by decide +kernel
theorem dX1_save_25 : decode cX1_save 25 = .ok (.aload_n 1, 1) := by decide +kernel
theorem dX1_save_26 : decode cX1_save 26 = .ok (.iload_n 2, 1) := by decide +kernel
theorem dX1_save_27 : decode cX1_save 27 = .ok (.iconst 5, 1) := by decide +kernel
theorem dX1_save_28 : decode cX1_save 28 = .ok (.iadd, 1) := by decide +kernel
theorem dX1_save_29 : decode cX1_save 29 = .ok (.aload_n 0, 1) := by decide +kernel
theorem dX1_save_30 : decode cX1_save 30 = .ok (.getfield 25, 3) := by decide +kernel
theorem dX1_save_33 : decode cX1_save 33 = .ok (.iastore, 1) := by decide +kernel
theorem dX1_save_34 : decode cX1_save 34 = .ok (.aload_n 1, 1) := by decide +kernel
theorem dX1_save_35 : decode cX1_save 35 = .ok (.iload_n 2, 1) := by decide +kernel
theorem dX1_save_36 : decode cX1_save 36 = .ok (.iconst 5, 1) := by decide +kernel
theorem dX1_save_37 : decode cX1_save 37 = .ok (.iadd, 1) := by decide +kernel
theorem dX1_save_38 : decode cX1_save 38 = .ok (.iconst 1, 1) := by decide +kernel
theorem dX1_save_39 : decode cX1_save 39 = .ok (.iadd, 1) := by decide +kernel
theorem dX1_save_40 : decode cX1_save 40 = .ok (.aload_n 0, 1) := by decide +kernel
theorem dX1_save_41 : decode cX1_save 41 = .ok (.getfield 28, 3) := by decide +kernel
theorem dX1_save_44 : decode cX1_save 44 = .ok (.iastore, 1) := by decide +kernel
theorem dX1_save_45 : decode cX1_save 45 = .ok (.aload_n 1, 1) := by decide +kernel
theorem dX1_save_46 : decode cX1_save 46 = .ok (.iload_n 2, 1) := by decide +kernel
theorem dX1_save_47 : decode cX1_save 47 = .ok (.iconst 5, 1) := by decide +kernel
theorem dX1_save_48 : decode cX1_save 48 = .ok (.iadd, 1) := by decide +kernel
theorem dX1_save_49 : decode cX1_save 49 = .ok (.iconst 2, 1) := by decide +kernel
theorem dX1_save_50 : decode cX1_save 50 = .ok (.iadd, 1) := by decide +kernel
theorem dX1_save_51 : decode cX1_save 51 = .ok (.aload_n 0, 1) := by decide +kernel
theorem dX1_save_52 : decode cX1_save 52 = .ok (.getfield 31, 3) := by decide +kernel
theorem dX1_save_55 : decode cX1_save 55 = .ok (.iastore, 1) := by decide +kernel
theorem dX1_save_56 : decode cX1_save 56 = .ok (.aload_n 1, 1) := by decide +kernel
theorem dX1_save_57 : decode cX1_save 57 = .ok (.iload_n 2, 1) := by decide +kernel
theorem dX1_save_58 : decode cX1_save 58 = .ok (.iconst 5, 1) := by decide +kernel
theorem dX1_save_59 : decode cX1_save 59 = .ok (.iadd, 1) := by decide +kernel
theorem dX1_save_60 : decode cX1_save 60 = .ok (.iconst 3, 1) := by decide +kernel
theorem dX1_save_61 : decode cX1_save 61 = .ok (.iadd, 1) := by decide +kernel
theorem dX1_save_62 : decode cX1_save 62 = .ok (.aload_n 0, 1) := by decide +kernel
theorem dX1_save_63 : decode cX1_save 63 = .ok (.getfield 34, 3) := by decide +kernel
theorem dX1_save_66 : decode cX1_save 66 = .ok (.iastore, 1) := by decide +kernel
theorem dX1_save_67 : decode cX1_save 67 = .ok (.aload_n 1, 1) := by decide +kernel
theorem dX1_save_68 : decode cX1_save 68 = .ok (.iload_n 2, 1) := by decide +kernel
theorem dX1_save_69 : decode cX1_save 69 = .ok (.iconst 5, 1) := by decide +kernel
theorem dX1_save_70 : decode cX1_save 70 = .ok (.iadd, 1) := by decide +kernel
theorem dX1_save_71 : decode cX1_save 71 = .ok (.iconst 4, 1) := by decide +kernel
theorem dX1_save_72 : decode cX1_save 72 = .ok (.iadd, 1) := by decide +kernel
theorem dX1_save_73 : decode cX1_save 73 = .ok (.aload_n 0, 1) := by decide +kernel
theorem dX1_save_74 : decode cX1_save 74 = .ok (.getfield 37, 3) := by decide +kernel
theorem dX1_save_77 : decode cX1_save 77 = .ok (.iastore, 1) := by decide +kernel
theorem dX1_save_78 : decode cX1_save 78 = .ok (.return_, 1) := by decide +kernel
theorem dX1_load_0 : decode cX1_load 0 = .ok (.iload_n 2, 1) := by decide +kernel
theorem dX1_load_1 : decode cX1_load 1 = .ok (.ifCond .lt 12, 3) := by decide +kernel
theorem dX1_load_4 : decode cX1_load 4 = .ok (.iload_n 2, 1) := by decide +kernel
theorem dX1_load_5 : decode cX1_load 5 = .ok (.aload_n 1, 1) := by decide +kernel
theorem dX1_load_6 : decode cX1_load 6 = .ok (.arraylength, 1) := by decide +kernel
theorem dX1_load_7 : decode cX1_load 7 = .ok (.bipush 10, 2) := by decide +kernel
theorem dX1_load_9 : decode cX1_load 9 = .ok (.isub, 1) := by decide +kernel
theorem dX1_load_10 : decode cX1_load 10 = .ok (.if_icmp .le 4, 3) := by decide +kernel
theorem dX1_load_13 : decode cX1_load 13 = .ok (.return_, 1) := by decide +kernel
theorem dX1_load_14 : decode cX1_load 14 = .ok (.aload_n 1, 1) := by decide +kernel
theorem dX1_load_15 : decode cX1_load 15 = .ok (.iload_n 2, 1) := by decide +kernel
theorem dX1_load_16 : decode cX1_load 16 = .ok (.aload_n 0, 1) := by decide +kernel
theorem dX1_load_17 : decode cX1_load 17 = .ok (.getfield 9, 3) := by decide +kernel
theorem dX1_load_20 : decode cX1_load 20 = .ok (.iconst 0, 1) := by decide +kernel
theorem dX1_load_21 : decode cX1_load 21 = .ok (.iconst 5, 1) := by decide +kernel
theorem dX1_load_22 : decode cX1_load 22 = .ok (.invokestatic 40, 3) := by decide +kernel
theorem dX1_load_25 : decode cX1_load 25 = .ok (.aload_n 0, 1) := by decide +kernel
theorem dX1_load_26 : decode cX1_load 26 = .ok (.aload_n 1, 1) := by decide +kernel
theorem dX1_load_27 : decode cX1_load 27 = .ok (.iload_n 2, 1) := by decide +kernel
theorem dX1_load_28 : decode cX1_load 28 = .ok (.iconst 5, 1) := by decide +kernel
theorem dX1_load_29 : decode cX1_load 29 = .ok (.iadd, 1) := by decide +kernel
theorem dX1_load_30 : decode cX1_load 30 = .ok (.iaload, 1) := by decide +kernel
theorem dX1_load_31 : decode cX1_load 31 = .ok (.putfield 25, 3) := by decide +kernel
theorem dX1_load_34 : decode cX1_load 34 = .ok (.aload_n 0, 1) := by decide +kernel
theorem dX1_load_35 : decode cX1_load 35 = .ok (.aload_n 1, 1) := by decide +kernel
theorem dX1_load_36 : decode cX1_load 36 = .ok (.iload_n 2, 1) := by decide +kernel
theorem dX1_load_37 : decode cX1_load 37 = .ok (.iconst 5, 1) := by decide +kernel
theorem dX1_load_38 : decode cX1_load 38 = .ok (.iadd, 1) := by decide +kernel
theorem dX1_load_39 : decode cX1_load 39 = .ok (.iconst 1, 1) := by decide +kernel
theorem dX1_load_40 : decode cX1_load 40 = .ok (.iadd, 1) := by decide +kernel
theorem dX1_load_41 : decode cX1_load 41 = .ok (.iaload, 1) := by decide +kernel
theorem dX1_load_42 : decode cX1_load 42 = .ok (.putfield 28, 3) := by decide +kernel
theorem dX1_load_45 : decode cX1_load 45 = .ok (.aload_n 0, 1) := by decide +kernel
theorem dX1_load_46 : decode cX1_load 46 = .ok (.aload_n 1, 1) := by decide +kernel
theorem dX1_load_47 : decode cX1_load 47 = .ok (.iload_n 2, 1) := by decide +kernel
theorem dX1_load_48 : decode cX1_load 48 = .ok (.iconst 5, 1) := by decide +kernel
theorem dX1_load_49 : decode cX1_load 49 = .ok (.iadd, 1) := by decide +kernel
theorem dX1_load_50 : decode cX1_load 50 = .ok (.iconst 2, 1) := by decide +kernel
theorem dX1_load_51 : decode cX1_load 51 = .ok (.iadd, 1) := by decide +kernel
theorem dX1_load_52 : decode cX1_load 52 = .ok (.iaload, 1) := by decide +kernel
theorem dX1_load_53 : decode cX1_load 53 = .ok (.putfield 31, 3) := by decide +kernel
theorem dX1_load_56 : decode cX1_load 56 = .ok (.aload_n 0, 1) := by decide +kernel
theorem dX1_load_57 : decode cX1_load 57 = .ok (.aload_n 1, 1) := by decide +kernel
theorem dX1_load_58 : decode cX1_load 58 = .ok (.iload_n 2, 1) := by decide +kernel
theorem dX1_load_59 : decode cX1_load 59 = .ok (.iconst 5, 1) := by decide +kernel
theorem dX1_load_60 : decode cX1_load 60 = .ok (.iadd, 1) := by decide +kernel
theorem dX1_load_61 : decode cX1_load 61 = .ok (.iconst 3, 1) := by decide +kernel
theorem dX1_load_62 : decode cX1_load 62 = .ok (.iadd, 1) := by decide +kernel
theorem dX1_load_63 : decode cX1_load 63 = .ok (.iaload, 1) := by decide +kernel
theorem dX1_load_64 : decode cX1_load 64 = .ok (.putfield 34, 3) := by decide +kernel
theorem dX1_load_67 : decode cX1_load 67 = .ok (.aload_n 0, 1) := by decide +kernel
theorem dX1_load_68 : decode cX1_load 68 = .ok (.aload_n 1, 1) := by decide +kernel
theorem dX1_load_69 : decode cX1_load 69 = .ok (.iload_n 2, 1) := by decide +kernel
theorem dX1_load_70 : decode cX1_load 70 = .ok (.iconst 5, 1) := by decide +kernel
theorem dX1_load_71 : decode cX1_load 71 = .ok (.iadd, 1) := by decide +kernel
theorem dX1_load_72 : decode cX1_load 72 = .ok (.iconst 4, 1) := by decide +kernel
theorem dX1_load_73 : decode cX1_load 73 = .ok (.iadd, 1) := by decide +kernel
theorem dX1_load_74 : decode cX1_load 74 = .ok (.iaload, 1) := by decide +kernel
theorem dX1_load_75 : decode cX1_load 75 = .ok (.putfield 37, 3) := by decide +kernel
theorem dX1_load_78 : decode cX1_load 78 = .ok (.return_, 1) := by decide +kernel
theorem dX1_placeOf_0 : decode cX1_placeOf 0 = .ok (.iload_n 1, 1) := by decide +kernel
theorem dX1_placeOf_1 : decode cX1_placeOf 1 = .ok (.ifCond .lt 21, 3) := by decide +kernel
theorem dX1_placeOf_4 : decode cX1_placeOf 4 = .ok (.iload_n 1, 1) := by decide +kernel
theorem dX1_placeOf_5 : decode cX1_placeOf 5 = .ok (.aload_n 0, 1) := by decide +kernel
theorem dX1_placeOf_6 : decode cX1_placeOf 6 = .ok (.getfield 9, 3) := by decide +kernel
theorem dX1_placeOf_9 : decode cX1_placeOf 9 = .ok (.arraylength, 1) := by decide +kernel
theorem dX1_placeOf_10 : decode cX1_placeOf 10 = .ok (.if_icmp .ge 12, 3) := by decide +kernel
theorem dX1_placeOf_13 : decode cX1_placeOf 13 = .ok (.aload_n 0, 1) := by decide +kernel
theorem dX1_placeOf_14 : decode cX1_placeOf 14 = .ok (.getfield 9, 3) := by decide +kernel
theorem dX1_placeOf_17 : decode cX1_placeOf 17 = .ok (.iload_n 1, 1) := by decide +kernel
theorem dX1_placeOf_18 : decode cX1_placeOf 18 = .ok (.iaload, 1) := by decide +kernel
theorem dX1_placeOf_19 : decode cX1_placeOf 19 = .ok (.goto 5, 3) := by decide +kernel
theorem dX1_placeOf_22 : decode cX1_placeOf 22 = .ok (.bipush (-4), 2) := by decide +kernel
theorem dX1_placeOf_24 : decode cX1_placeOf 24 = .ok (.ireturn, 1) := by decide +kernel
theorem dX1_areNext_0 : decode cX1_areNext 0 = .ok (.aload_n 0, 1) := by decide +kernel
theorem dX1_areNext_1 : decode cX1_areNext 1 = .ok (.iload_n 1, 1) := by decide +kernel
theorem dX1_areNext_2 : decode cX1_areNext 2 = .ok (.invokevirtual 46, 3) := by decide +kernel
theorem dX1_areNext_5 : decode cX1_areNext 5 = .ok (.aload_n 0, 1) := by decide +kernel
theorem dX1_areNext_6 : decode cX1_areNext 6 = .ok (.iload_n 2, 1) := by decide +kernel
theorem dX1_areNext_7 : decode cX1_areNext 7 = .ok (.invokevirtual 46, 3) := by decide +kernel
theorem dX1_areNext_10 : decode cX1_areNext 10 = .ok (.isub, 1) := by decide +kernel
theorem dX1_areNext_11 : decode cX1_areNext 11 = .ok (.istore_n 3, 1) := by decide +kernel
theorem dX1_areNext_12 : decode cX1_areNext 12 = .ok (.iload_n 3, 1) := by decide +kernel
theorem dX1_areNext_13 : decode cX1_areNext 13 = .ok (.iconst 1, 1) := by decide +kernel
theorem dX1_areNext_14 : decode cX1_areNext 14 = .ok (.if_icmp .eq 8, 3) := by decide +kernel
theorem dX1_areNext_17 : decode cX1_areNext 17 = .ok (.iload_n 3, 1) := by decide +kernel
theorem dX1_areNext_18 : decode cX1_areNext 18 = .ok (.iconst (-1), 1) := by decide +kernel
theorem dX1_areNext_19 : decode cX1_areNext 19 = .ok (.if_icmp .ne 7, 3) := by decide +kernel
theorem dX1_areNext_22 : decode cX1_areNext 22 = .ok (.iconst 1, 1) := by decide +kernel
theorem dX1_areNext_23 : decode cX1_areNext 23 = .ok (.goto 4, 3) := by decide +kernel
theorem dX1_areNext_26 : decode cX1_areNext 26 = .ok (.iconst 0, 1) := by decide +kernel
theorem dX1_areNext_27 : decode cX1_areNext 27 = .ok (.ireturn, 1) := by decide +kernel
theorem dX1_guestIn_0 : decode cX1_guestIn 0 = .ok (.iconst 0, 1) := by decide +kernel
theorem dX1_guestIn_1 : decode cX1_guestIn 1 = .ok (.istore_n 3, 1) := by decide +kernel
theorem dX1_guestIn_2 : decode cX1_guestIn 2 = .ok (.iload_n 3, 1) := by decide +kernel
theorem dX1_guestIn_3 : decode cX1_guestIn 3 = .ok (.iload_n 2, 1) := by decide +kernel
theorem dX1_guestIn_4 : decode cX1_guestIn 4 = .ok (.if_icmp .ge 20, 3) := by decide +kernel
theorem dX1_guestIn_7 : decode cX1_guestIn 7 = .ok (.aload_n 0, 1) := by decide +kernel
theorem dX1_guestIn_8 : decode cX1_guestIn 8 = .ok (.iload_n 3, 1) := by decide +kernel
theorem dX1_guestIn_9 : decode cX1_guestIn 9 = .ok (.invokevirtual 46, 3) := by decide +kernel
theorem dX1_guestIn_12 : decode cX1_guestIn 12 = .ok (.iload_n 1, 1) := by decide +kernel
theorem dX1_guestIn_13 : decode cX1_guestIn 13 = .ok (.if_icmp .ne 5, 3) := by decide +kernel
theorem dX1_guestIn_16 : decode cX1_guestIn 16 = .ok (.iload_n 3, 1) := by decide +kernel
theorem dX1_guestIn_17 : decode cX1_guestIn 17 = .ok (.ireturn, 1) := by decide +kernel
theorem dX1_guestIn_18 : decode cX1_guestIn 18 = .ok (.iinc 3 1, 3) := by decide +kernel
theorem dX1_guestIn_21 : decode cX1_guestIn 21 = .ok (.goto (-19), 3) := by decide +kernel
theorem dX1_guestIn_24 : decode cX1_guestIn 24 = .ok (.bipush (-4), 2) := by decide +kernel
theorem dX1_guestIn_26 : decode cX1_guestIn 26 = .ok (.ireturn, 1) := by decide +kernel
theorem dX1_isEmpty_0 : decode cX1_isEmpty 0 = .ok (.aload_n 0, 1) := by decide +kernel
theorem dX1_isEmpty_1 : decode cX1_isEmpty 1 = .ok (.iload_n 1, 1) := by decide +kernel
theorem dX1_isEmpty_2 : decode cX1_isEmpty 2 = .ok (.iload_n 2, 1) := by decide +kernel
theorem dX1_isEmpty_3 : decode cX1_isEmpty 3 = .ok (.invokevirtual 49, 3) := by decide +kernel
theorem dX1_isEmpty_6 : decode cX1_isEmpty 6 = .ok (.bipush (-4), 2) := by decide +kernel
theorem dX1_isEmpty_8 : decode cX1_isEmpty 8 = .ok (.if_icmp .ne 7, 3) := by decide +kernel
theorem dX1_isEmpty_11 : decode cX1_isEmpty 11 = .ok (.iconst 1, 1) := by decide +kernel
theorem dX1_isEmpty_12 : decode cX1_isEmpty 12 = .ok (.goto 4, 3) := by decide +kernel
theorem dX1_isEmpty_15 : decode cX1_isEmpty 15 = .ok (.iconst 0, 1) := by decide +kernel
theorem dX1_isEmpty_16 : decode cX1_isEmpty 16 = .ok (.ireturn, 1) := by decide +kernel
theorem dX1_isStuffed_0 : decode cX1_isStuffed 0 = .ok (.aload_n 0, 1) := by decide +kernel
theorem dX1_isStuffed_1 : decode cX1_isStuffed 1 = .ok (.getfield 25, 3) := by decide +kernel
theorem dX1_isStuffed_4 : decode cX1_isStuffed 4 = .ok (.iload_n 1, 1) := by decide +kernel
theorem dX1_isStuffed_5 : decode cX1_isStuffed 5 = .ok (.ishr, 1) := by decide +kernel
theorem dX1_isStuffed_6 : decode cX1_isStuffed 6 = .ok (.iconst 1, 1) := by decide +kernel
theorem dX1_isStuffed_7 : decode cX1_isStuffed 7 = .ok (.iand, 1) := by decide +kernel
theorem dX1_isStuffed_8 : decode cX1_isStuffed 8 = .ok (.iconst 1, 1) := by decide +kernel
theorem dX1_isStuffed_9 : decode cX1_isStuffed 9 = .ok (.if_icmp .ne 7, 3) := by decide +kernel
theorem dX1_isStuffed_12 : decode cX1_isStuffed 12 = .ok (.iconst 1, 1) := by decide +kernel
theorem dX1_isStuffed_13 : decode cX1_isStuffed 13 = .ok (.goto 4, 3) := by decide +kernel
theorem dX1_isStuffed_16 : decode cX1_isStuffed 16 = .ok (.iconst 0, 1) := by decide +kernel
theorem dX1_isStuffed_17 : decode cX1_isStuffed 17 = .ok (.ireturn, 1) := by decide +kernel
theorem dX1_turnWall_0 : decode cX1_turnWall 0 = .ok (.aload_n 0, 1) := by decide +kernel
theorem dX1_turnWall_1 : decode cX1_turnWall 1 = .ok (.dup, 1) := by decide +kernel
theorem dX1_turnWall_2 : decode cX1_turnWall 2 = .ok (.getfield 25, 3) := by decide +kernel
theorem dX1_turnWall_5 : decode cX1_turnWall 5 = .ok (.iconst 1, 1) := by decide +kernel
theorem dX1_turnWall_6 : decode cX1_turnWall 6 = .ok (.iload_n 1, 1) := by decide +kernel
theorem dX1_turnWall_7 : decode cX1_turnWall 7 = .ok (.ishl, 1) := by decide +kernel
theorem dX1_turnWall_8 : decode cX1_turnWall 8 = .ok (.ixor, 1) := by decide +kernel
theorem dX1_turnWall_9 : decode cX1_turnWall 9 = .ok (.putfield 25, 3) := by decide +kernel
theorem dX1_turnWall_12 : decode cX1_turnWall 12 = .ok (.return_, 1) := by decide +kernel
theorem dX1_passHour_0 : decode cX1_passHour 0 = .ok (.aload_n 0, 1) := by decide +kernel
theorem dX1_passHour_1 : decode cX1_passHour 1 = .ok (.bipush 7, 2) := by decide +kernel
theorem dX1_passHour_3 : decode cX1_passHour 3 = .ok (.aload_n 0, 1) := by decide +kernel
theorem dX1_passHour_4 : decode cX1_passHour 4 = .ok (.getfield 28, 3) := by decide +kernel
theorem dX1_passHour_7 : decode cX1_passHour 7 = .ok (.iconst 1, 1) := by decide +kernel
theorem dX1_passHour_8 : decode cX1_passHour 8 = .ok (.iadd, 1) := by decide +kernel
theorem dX1_passHour_9 : decode cX1_passHour 9 = .ok (.invokestatic 53, 3) := by decide +kernel
theorem dX1_passHour_12 : decode cX1_passHour 12 = .ok (.putfield 28, 3) := by decide +kernel
theorem dX1_passHour_15 : decode cX1_passHour 15 = .ok (.return_, 1) := by decide +kernel
theorem dX1_move_0 : decode cX1_move 0 = .ok (.iload_n 1, 1) := by decide +kernel
theorem dX1_move_1 : decode cX1_move 1 = .ok (.ifCond .lt 12, 3) := by decide +kernel
theorem dX1_move_4 : decode cX1_move 4 = .ok (.iload_n 1, 1) := by decide +kernel
theorem dX1_move_5 : decode cX1_move 5 = .ok (.aload_n 0, 1) := by decide +kernel
theorem dX1_move_6 : decode cX1_move 6 = .ok (.getfield 9, 3) := by decide +kernel
theorem dX1_move_9 : decode cX1_move 9 = .ok (.arraylength, 1) := by decide +kernel
theorem dX1_move_10 : decode cX1_move 10 = .ok (.if_icmp .lt 4, 3) := by decide +kernel
theorem dX1_move_13 : decode cX1_move 13 = .ok (.return_, 1) := by decide +kernel
theorem dX1_move_14 : decode cX1_move 14 = .ok (.aload_n 0, 1) := by decide +kernel
theorem dX1_move_15 : decode cX1_move 15 = .ok (.dup, 1) := by decide +kernel
theorem dX1_move_16 : decode cX1_move 16 = .ok (.getfield 31, 3) := by decide +kernel
theorem dX1_move_19 : decode cX1_move 19 = .ok (.iload_n 2, 1) := by decide +kernel
theorem dX1_move_20 : decode cX1_move 20 = .ok (.aload_n 0, 1) := by decide +kernel
theorem dX1_move_21 : decode cX1_move 21 = .ok (.getfield 9, 3) := by decide +kernel
theorem dX1_move_24 : decode cX1_move 24 = .ok (.iload_n 1, 1) := by decide +kernel
theorem dX1_move_25 : decode cX1_move 25 = .ok (.iaload, 1) := by decide +kernel
theorem dX1_move_26 : decode cX1_move 26 = .ok (.isub, 1) := by decide +kernel
theorem dX1_move_27 : decode cX1_move 27 = .ok (.invokestatic 58, 3) := by decide +kernel
theorem dX1_move_30 : decode cX1_move 30 = .ok (.iadd, 1) := by decide +kernel
theorem dX1_move_31 : decode cX1_move 31 = .ok (.putfield 31, 3) := by decide +kernel
theorem dX1_move_34 : decode cX1_move 34 = .ok (.aload_n 0, 1) := by decide +kernel
theorem dX1_move_35 : decode cX1_move 35 = .ok (.dup, 1) := by decide +kernel
theorem dX1_move_36 : decode cX1_move 36 = .ok (.getfield 34, 3) := by decide +kernel
theorem dX1_move_39 : decode cX1_move 39 = .ok (.iconst 1, 1) := by decide +kernel
theorem dX1_move_40 : decode cX1_move 40 = .ok (.iadd, 1) := by decide +kernel
theorem dX1_move_41 : decode cX1_move 41 = .ok (.putfield 34, 3) := by decide +kernel
theorem dX1_move_44 : decode cX1_move 44 = .ok (.aload_n 0, 1) := by decide +kernel
theorem dX1_move_45 : decode cX1_move 45 = .ok (.dup, 1) := by decide +kernel
theorem dX1_move_46 : decode cX1_move 46 = .ok (.getfield 37, 3) := by decide +kernel
theorem dX1_move_49 : decode cX1_move 49 = .ok (.iload_n 3, 1) := by decide +kernel
theorem dX1_move_50 : decode cX1_move 50 = .ok (.iadd, 1) := by decide +kernel
theorem dX1_move_51 : decode cX1_move 51 = .ok (.putfield 37, 3) := by decide +kernel
theorem dX1_move_54 : decode cX1_move 54 = .ok (.aload_n 0, 1) := by decide +kernel
theorem dX1_move_55 : decode cX1_move 55 = .ok (.getfield 9, 3) := by decide +kernel
theorem dX1_move_58 : decode cX1_move 58 = .ok (.iload_n 1, 1) := by decide +kernel
theorem dX1_move_59 : decode cX1_move 59 = .ok (.iload_n 2, 1) := by decide +kernel
theorem dX1_move_60 : decode cX1_move 60 = .ok (.iastore, 1) := by decide +kernel
theorem dX1_move_61 : decode cX1_move 61 = .ok (.return_, 1) := by decide +kernel
