theorem dX7_init_0 : decode cX7_init 0 = .ok (.aload_n 0, 1) := by decide +kernel
theorem dX7_init_1 : decode cX7_init 1 = .ok (.invokespecial 1, 3) := by decide +kernel
theorem dX7_init_4 : decode cX7_init 4 = .ok (.aload_n 0, 1) := by decide +kernel
theorem dX7_init_5 : decode cX7_init 5 = .ok (.new 7, 3) := by decide +kernel
theorem dX7_init_8 : decode cX7_init 8 = .ok (.dup, 1) := by decide +kernel
theorem dX7_init_9 : decode cX7_init 9 = .ok (.invokespecial 9, 3) := by decide +kernel
theorem dX7_init_12 : decode cX7_init 12 = .ok (.putfield 10, 3) := by decide +kernel
theorem dX7_init_15 : decode cX7_init 15 = .ok (.aload_n 0, 1) := by decide +kernel
theorem dX7_init_16 : decode cX7_init 16 = .ok (.new 16, 3) := by decide +kernel
theorem dX7_init_19 : decode cX7_init 19 = .ok (.dup, 1) := by decide +kernel
theorem dX7_init_20 : decode cX7_init 20 = .ok (.invokespecial 18, 3) := by decide +kernel
theorem dX7_init_23 : decode cX7_init 23 = .ok (.putfield 19, 3) := by decide +kernel
theorem dX7_init_26 : decode cX7_init 26 = .ok (.aload_n 0, 1) := by decide +kernel
theorem dX7_init_27 : decode cX7_init 27 = .ok (.new 23, 3) := by decide +kernel
theorem dX7_init_30 : decode cX7_init 30 = .ok (.dup, 1) := by decide +kernel
theorem dX7_init_31 : decode cX7_init 31 = .ok (.invokespecial 25, 3) := by decide +kernel
theorem dX7_init_34 : decode cX7_init 34 = .ok (.putfield 26, 3) := by decide +kernel
theorem dX7_init_37 : decode cX7_init 37 = .ok (.aload_n 0, 1) := by decide +kernel
theorem dX7_init_38 : decode cX7_init 38 = .ok (.new 30, 3) := by decide +kernel
theorem dX7_init_41 : decode cX7_init 41 = .ok (.dup, 1) := by decide +kernel
theorem dX7_init_42 : decode cX7_init 42 = .ok (.invokespecial 32, 3) := by decide +kernel
theorem dX7_init_45 : decode cX7_init 45 = .ok (.putfield 33, 3) := by decide +kernel
theorem dX7_init_48 : decode cX7_init 48 = .ok (.aload_n 0, 1) := by decide +kernel
theorem dX7_init_49 : decode cX7_init 49 = .ok (.new 37, 3) := by decide +kernel
theorem dX7_init_52 : decode cX7_init 52 = .ok (.dup, 1) := by decide +kernel
theorem dX7_init_53 : decode cX7_init 53 = .ok (.bipush 8, 2) := by decide +kernel
theorem dX7_init_55 : decode cX7_init 55 = .ok (.invokespecial 39, 3) := by decide +kernel
theorem dX7_init_58 : decode cX7_init 58 = .ok (.putfield 42, 3) := by decide +kernel
theorem dX7_init_61 : decode cX7_init 61 = .ok (.aload_n 0, 1) := by decide +kernel
theorem dX7_init_62 : decode cX7_init 62 = .ok (.new 37, 3) := by decide +kernel
theorem dX7_init_65 : decode cX7_init 65 = .ok (.dup, 1) := by decide +kernel
theorem dX7_init_66 : decode cX7_init 66 = .ok (.iconst 2, 1) := by decide +kernel
theorem dX7_init_67 : decode cX7_init 67 = .ok (.invokespecial 39, 3) := by decide +kernel
theorem dX7_init_70 : decode cX7_init 70 = .ok (.putfield 46, 3) := by decide +kernel
theorem dX7_init_73 : decode cX7_init 73 = .ok (.aload_n 0, 1) := by decide +kernel
theorem dX7_init_74 : decode cX7_init 74 = .ok (.new 49, 3) := by decide +kernel
theorem dX7_init_77 : decode cX7_init 77 = .ok (.dup, 1) := by decide +kernel
theorem dX7_init_78 : decode cX7_init 78 = .ok (.invokespecial 51, 3) := by decide +kernel
theorem dX7_init_81 : decode cX7_init 81 = .ok (.putfield 52, 3) := by decide +kernel
theorem dX7_init_84 : decode cX7_init 84 = .ok (.aload_n 0, 1) := by decide +kernel
theorem dX7_init_85 : decode cX7_init 85 = .ok (.new 49, 3) := by decide +kernel
theorem dX7_init_88 : decode cX7_init 88 = .ok (.dup, 1) := by decide +kernel
theorem dX7_init_89 : decode cX7_init 89 = .ok (.invokespecial 51, 3) := by decide +kernel
theorem dX7_init_92 : decode cX7_init 92 = .ok (.putfield 56, 3) := by decide +kernel
theorem dX7_init_95 : decode cX7_init 95 = .ok (.aload_n 0, 1) := by decide +kernel
theorem dX7_init_96 : decode cX7_init 96 = .ok (.new 59, 3) := by decide +kernel
theorem dX7_init_99 : decode cX7_init 99 = .ok (.dup, 1) := by decide +kernel
theorem dX7_init_100 : decode cX7_init 100 = .ok (.invokespecial 61, 3) := by decide +kernel
theorem dX7_init_103 : decode cX7_init 103 = .ok (.putfield 62, 3) := by decide +kernel
theorem dX7_init_106 : decode cX7_init 106 = .ok (.aload_n 0, 1) := by decide +kernel
theorem dX7_init_107 : decode cX7_init 107 = .ok (.new 59, 3) := by decide +kernel
theorem dX7_init_110 : decode cX7_init 110 = .ok (.dup, 1) := by decide +kernel
theorem dX7_init_111 : decode cX7_init 111 = .ok (.invokespecial 61, 3) := by decide +kernel
theorem dX7_init_114 : decode cX7_init 114 = .ok (.putfield 66, 3) := by decide +kernel
theorem dX7_init_117 : decode cX7_init 117 = .ok (.aload_n 0, 1) := by decide +kernel
theorem dX7_init_118 : decode cX7_init 118 = .ok (.new 59, 3) := by decide +kernel
theorem dX7_init_121 : decode cX7_init 121 = .ok (.dup, 1) := by decide +kernel
theorem dX7_init_122 : decode cX7_init 122 = .ok (.invokespecial 61, 3) := by decide +kernel
theorem dX7_init_125 : decode cX7_init 125 = .ok (.putfield 69, 3) := by decide +kernel
theorem dX7_init_128 : decode cX7_init 128 = .ok (.iconst 0, 1) := by decide +kernel
theorem dX7_init_129 : decode cX7_init 129 = .ok (.istore_n 1, 1) := by decide +kernel
theorem dX7_init_130 : decode cX7_init 130 = .ok (.iload_n 1, 1) := by decide +kernel
theorem dX7_init_131 : decode cX7_init 131 = .ok (.ldc 72, 2) := by decide +kernel
theorem dX7_init_133 : decode cX7_init 133 = .ok (.invokevirtual 74, 3) := by decide +kernel
theorem dX7_init_136 : decode cX7_init 136 = .ok (.if_icmp .ge 23, 3) := by decide +kernel
theorem dX7_init_139 : decode cX7_init 139 = .ok (.aload_n 0, 1) := by decide +kernel
theorem dX7_init_140 : decode cX7_init 140 = .ok (.getfield 10, 3) := by decide +kernel
theorem dX7_init_143 : decode cX7_init 143 = .ok (.ldc 72, 2) := by decide +kernel
theorem dX7_init_145 : decode cX7_init 145 = .ok (.iload_n 1, 1) := by decide +kernel
theorem dX7_init_146 : decode cX7_init 146 = .ok (.invokevirtual 80, 3) := by decide +kernel
theorem dX7_init_149 : decode cX7_init 149 = .ok (.invokevirtual 84, 3) := by decide +kernel
theorem dX7_init_152 : decode cX7_init 152 = .ok (.pop, 1) := by decide +kernel
theorem dX7_init_153 : decode cX7_init 153 = .ok (.iinc 1 1, 3) := by decide +kernel
theorem dX7_init_156 : decode cX7_init 156 = .ok (.goto (-26), 3) := by decide +kernel
theorem dX7_init_159 : decode cX7_init 159 = .ok (.aload_n 0, 1) := by decide +kernel
theorem dX7_init_160 : decode cX7_init 160 = .ok (.getfield 10, 3) := by decide +kernel
theorem dX7_init_163 : decode cX7_init 163 = .ok (.aload_n 0, 1) := by decide +kernel
theorem dX7_init_164 : decode cX7_init 164 = .ok (.getfield 66, 3) := by decide +kernel
theorem dX7_init_167 : decode cX7_init 167 = .ok (.invokevirtual 88, 3) := by decide +kernel
theorem dX7_init_170 : decode cX7_init 170 = .ok (.bipush (-4), 2) := by decide +kernel
theorem dX7_init_172 : decode cX7_init 172 = .ok (.if_icmp .ne 7, 3) := by decide +kernel
theorem dX7_init_175 : decode cX7_init 175 = .ok (.aload_n 0, 1) := by decide +kernel
theorem dX7_init_176 : decode cX7_init 176 = .ok (.invokevirtual 92, 3) := by decide +kernel
theorem dX7_init_179 : decode cX7_init 179 = .ok (.aload_n 0, 1) := by decide +kernel
theorem dX7_init_180 : decode cX7_init 180 = .ok (.getfield 10, 3) := by decide +kernel
theorem dX7_init_183 : decode cX7_init 183 = .ok (.invokevirtual 95, 3) := by decide +kernel
theorem dX7_init_186 : decode cX7_init 186 = .ok (.return_, 1) := by decide +kernel
theorem dX7_write_0 : decode cX7_write 0 = .ok (.iload_n 1, 1) := by decide +kernel
theorem dX7_write_1 : decode cX7_write 1 = .ok (.bipush 32, 2) := by decide +kernel
theorem dX7_write_3 : decode cX7_write 3 = .ok (.if_icmp .lt 9, 3) := by decide +kernel
theorem dX7_write_6 : decode cX7_write 6 = .ok (.iload_n 1, 1) := by decide +kernel
theorem dX7_write_7 : decode cX7_write 7 = .ok (.bipush 126, 2) := by decide +kernel
theorem dX7_write_9 : decode cX7_write 9 = .ok (.if_icmp .le 5, 3) := by decide +kernel
theorem dX7_write_12 : decode cX7_write 12 = .ok (.iconst (-1), 1) := by decide +kernel
theorem dX7_write_13 : decode cX7_write 13 = .ok (.ireturn, 1) := by decide +kernel
theorem dX7_write_14 : decode cX7_write 14 = .ok (.aload_n 0, 1) := by decide +kernel
theorem dX7_write_15 : decode cX7_write 15 = .ok (.getfield 10, 3) := by decide +kernel
theorem dX7_write_18 : decode cX7_write 18 = .ok (.iload_n 1, 1) := by decide +kernel
theorem dX7_write_19 : decode cX7_write 19 = .ok (.invokevirtual 84, 3) := by decide +kernel
theorem dX7_write_22 : decode cX7_write 22 = .ok (.ifCond .eq 13, 3) := by decide +kernel
theorem dX7_write_25 : decode cX7_write 25 = .ok (.aload_n 0, 1) := by decide +kernel
theorem dX7_write_26 : decode cX7_write 26 = .ok (.getfield 10, 3) := by decide +kernel
theorem dX7_write_29 : decode cX7_write 29 = .ok (.invokevirtual 98, 3) := by decide +kernel
theorem dX7_write_32 : decode cX7_write 32 = .ok (.goto 5, 3) := by decide +kernel
theorem dX7_write_35 : decode cX7_write 35 = .ok (.bipush (-3), 2) := by decide +kernel
theorem dX7_write_37 : decode cX7_write 37 = .ok (.ireturn, 1) := by decide +kernel
theorem dX7_wipe_0 : decode cX7_wipe 0 = .ok (.aload_n 0, 1) := by decide +kernel
theorem dX7_wipe_1 : decode cX7_wipe 1 = .ok (.getfield 10, 3) := by decide +kernel
theorem dX7_wipe_4 : decode cX7_wipe 4 = .ok (.invokevirtual 98, 3) := by decide +kernel
theorem dX7_wipe_7 : decode cX7_wipe 7 = .ok (.istore_n 1, 1) := by decide +kernel
theorem dX7_wipe_8 : decode cX7_wipe 8 = .ok (.aload_n 0, 1) := by decide +kernel
theorem dX7_wipe_9 : decode cX7_wipe 9 = .ok (.getfield 10, 3) := by decide +kernel
theorem dX7_wipe_12 : decode cX7_wipe 12 = .ok (.invokevirtual 95, 3) := by decide +kernel
theorem dX7_wipe_15 : decode cX7_wipe 15 = .ok (.iload_n 1, 1) := by decide +kernel
theorem dX7_wipe_16 : decode cX7_wipe 16 = .ok (.ireturn, 1) := by decide +kernel
theorem dX7_fault_0 : decode cX7_fault 0 = .ok (.aload_n 0, 1) := by decide +kernel
theorem dX7_fault_1 : decode cX7_fault 1 = .ok (.getfield 10, 3) := by decide +kernel
theorem dX7_fault_4 : decode cX7_fault 4 = .ok (.aload_n 0, 1) := by decide +kernel
theorem dX7_fault_5 : decode cX7_fault 5 = .ok (.getfield 66, 3) := by decide +kernel
theorem dX7_fault_8 : decode cX7_fault 8 = .ok (.invokevirtual 88, 3) := by decide +kernel
theorem dX7_fault_11 : decode cX7_fault 11 = .ok (.ireturn, 1) := by decide +kernel
theorem dX7_lay_0 : decode cX7_lay 0 = .ok (.aload_n 0, 1) := by decide +kernel
theorem dX7_lay_1 : decode cX7_lay 1 = .ok (.getfield 10, 3) := by decide +kernel
theorem dX7_lay_4 : decode cX7_lay 4 = .ok (.aload_n 0, 1) := by decide +kernel
theorem dX7_lay_5 : decode cX7_lay 5 = .ok (.getfield 66, 3) := by decide +kernel
theorem dX7_lay_8 : decode cX7_lay 8 = .ok (.invokevirtual 88, 3) := by decide +kernel
theorem dX7_lay_11 : decode cX7_lay 11 = .ok (.bipush (-4), 2) := by decide +kernel
theorem dX7_lay_13 : decode cX7_lay 13 = .ok (.if_icmp .ne 13, 3) := by decide +kernel
theorem dX7_lay_16 : decode cX7_lay 16 = .ok (.aload_n 0, 1) := by decide +kernel
theorem dX7_lay_17 : decode cX7_lay 17 = .ok (.getfield 66, 3) := by decide +kernel
theorem dX7_lay_20 : decode cX7_lay 20 = .ok (.invokevirtual 99, 3) := by decide +kernel
theorem dX7_lay_23 : decode cX7_lay 23 = .ok (.ifCond .ne 6, 3) := by decide +kernel
theorem dX7_lay_26 : decode cX7_lay 26 = .ok (.bipush (-2), 2) := by decide +kernel
theorem dX7_lay_28 : decode cX7_lay 28 = .ok (.ireturn, 1) := by decide +kernel
theorem dX7_lay_29 : decode cX7_lay 29 = .ok (.aload_n 0, 1) := by decide +kernel
theorem dX7_lay_30 : decode cX7_lay 30 = .ok (.invokevirtual 92, 3) := by decide +kernel
theorem dX7_lay_33 : decode cX7_lay 33 = .ok (.aload_n 0, 1) := by decide +kernel
theorem dX7_lay_34 : decode cX7_lay 34 = .ok (.getfield 62, 3) := by decide +kernel
theorem dX7_lay_37 : decode cX7_lay 37 = .ok (.invokevirtual 99, 3) := by decide +kernel
theorem dX7_lay_40 : decode cX7_lay 40 = .ok (.ireturn, 1) := by decide +kernel
theorem dX7_guest_0 : decode cX7_guest 0 = .ok (.aload_n 0, 1) := by decide +kernel
theorem dX7_guest_1 : decode cX7_guest 1 = .ok (.getfield 62, 3) := by decide +kernel
theorem dX7_guest_4 : decode cX7_guest 4 = .ok (.iload_n 1, 1) := by decide +kernel
theorem dX7_guest_5 : decode cX7_guest 5 = .ok (.invokevirtual 102, 3) := by decide +kernel
theorem dX7_guest_8 : decode cX7_guest 8 = .ok (.ifCond .ne 5, 3) := by decide +kernel
theorem dX7_guest_11 : decode cX7_guest 11 = .ok (.iconst (-1), 1) := by decide +kernel
theorem dX7_guest_12 : decode cX7_guest 12 = .ok (.ireturn, 1) := by decide +kernel
theorem dX7_guest_13 : decode cX7_guest 13 = .ok (.iload_n 2, 1) := by decide +kernel
theorem dX7_guest_14 : decode cX7_guest 14 = .ok (.tableswitch 155 0 7 #[46, 55, 64, 73, 82, 91, 107, 127], 46) := by decide +kernel
theorem dX7_guest_60 : decode cX7_guest 60 = .ok (.aload_n 0, 1) := by decide +kernel
theorem dX7_guest_61 : decode cX7_guest 61 = .ok (.getfield 62, 3) := by decide +kernel
theorem dX7_guest_64 : decode cX7_guest 64 = .ok (.iload_n 1, 1) := by decide +kernel
theorem dX7_guest_65 : decode cX7_guest 65 = .ok (.invokevirtual 105, 3) := by decide +kernel
theorem dX7_guest_68 : decode cX7_guest 68 = .ok (.ireturn, 1) := by decide +kernel
theorem dX7_guest_69 : decode cX7_guest 69 = .ok (.aload_n 0, 1) := by decide +kernel
theorem dX7_guest_70 : decode cX7_guest 70 = .ok (.getfield 62, 3) := by decide +kernel
theorem dX7_guest_73 : decode cX7_guest 73 = .ok (.iload_n 1, 1) := by decide +kernel
theorem dX7_guest_74 : decode cX7_guest 74 = .ok (.invokevirtual 109, 3) := by decide +kernel
theorem dX7_guest_77 : decode cX7_guest 77 = .ok (.ireturn, 1) := by decide +kernel
theorem dX7_guest_78 : decode cX7_guest 78 = .ok (.aload_n 0, 1) := by decide +kernel
theorem dX7_guest_79 : decode cX7_guest 79 = .ok (.getfield 62, 3) := by decide +kernel
theorem dX7_guest_82 : decode cX7_guest 82 = .ok (.iload_n 1, 1) := by decide +kernel
theorem dX7_guest_83 : decode cX7_guest 83 = .ok (.invokevirtual 112, 3) := by decide +kernel
theorem dX7_guest_86 : decode cX7_guest 86 = .ok (.ireturn, 1) := by decide +kernel
theorem dX7_guest_87 : decode cX7_guest 87 = .ok (.aload_n 0, 1) := by decide +kernel
theorem dX7_guest_88 : decode cX7_guest 88 = .ok (.getfield 62, 3) := by decide +kernel
theorem dX7_guest_91 : decode cX7_guest 91 = .ok (.iload_n 1, 1) := by decide +kernel
theorem dX7_guest_92 : decode cX7_guest 92 = .ok (.invokevirtual 115, 3) := by decide +kernel
theorem dX7_guest_95 : decode cX7_guest 95 = .ok (.ireturn, 1) := by decide +kernel
theorem dX7_guest_96 : decode cX7_guest 96 = .ok (.aload_n 0, 1) := by decide +kernel
theorem dX7_guest_97 : decode cX7_guest 97 = .ok (.getfield 52, 3) := by decide +kernel
theorem dX7_guest_100 : decode cX7_guest 100 = .ok (.iload_n 1, 1) := by decide +kernel
theorem dX7_guest_101 : decode cX7_guest 101 = .ok (.invokevirtual 118, 3) := by decide +kernel
theorem dX7_guest_104 : decode cX7_guest 104 = .ok (.ireturn, 1) := by decide +kernel
theorem dX7_guest_105 : decode cX7_guest 105 = .ok (.aload_n 0, 1) := by decide +kernel
theorem dX7_guest_106 : decode cX7_guest 106 = .ok (.getfield 62, 3) := by decide +kernel
theorem dX7_guest_109 : decode cX7_guest 109 = .ok (.iload_n 1, 1) := by decide +kernel
theorem dX7_guest_110 : decode cX7_guest 110 = .ok (.aload_n 0, 1) := by decide +kernel
theorem dX7_guest_111 : decode cX7_guest 111 = .ok (.getfield 52, 3) := by decide +kernel
theorem dX7_guest_114 : decode cX7_guest 114 = .ok (.getfield 121, 3) := by decide +kernel
theorem dX7_guest_117 : decode cX7_guest 117 = .ok (.invokevirtual 125, 3) := by decide +kernel
theorem dX7_guest_120 : decode cX7_guest 120 = .ok (.ireturn, 1) := by decide +kernel
theorem dX7_guest_121 : decode cX7_guest 121 = .ok (.aload_n 0, 1) := by decide +kernel
theorem dX7_guest_122 : decode cX7_guest 122 = .ok (.getfield 62, 3) := by decide +kernel
theorem dX7_guest_125 : decode cX7_guest 125 = .ok (.iload_n 1, 1) := by decide +kernel
theorem dX7_guest_126 : decode cX7_guest 126 = .ok (.aload_n 0, 1) := by decide +kernel
theorem dX7_guest_127 : decode cX7_guest 127 = .ok (.getfield 52, 3) := by decide +kernel
theorem dX7_guest_130 : decode cX7_guest 130 = .ok (.aload_n 0, 1) := by decide +kernel
theorem dX7_guest_131 : decode cX7_guest 131 = .ok (.getfield 52, 3) := by decide +kernel
theorem dX7_guest_134 : decode cX7_guest 134 = .ok (.getfield 121, 3) := by decide +kernel
theorem dX7_guest_137 : decode cX7_guest 137 = .ok (.invokevirtual 129, 3) := by decide +kernel
theorem dX7_guest_140 : decode cX7_guest 140 = .ok (.ireturn, 1) := by decide +kernel
theorem dX7_guest_141 : decode cX7_guest 141 = .ok (.aload_n 0, 1) := by decide +kernel
theorem dX7_guest_142 : decode cX7_guest 142 = .ok (.getfield 62, 3) := by decide +kernel
theorem dX7_guest_145 : decode cX7_guest 145 = .ok (.iload_n 1, 1) := by decide +kernel
theorem dX7_guest_146 : decode cX7_guest 146 = .ok (.aload_n 0, 1) := by decide +kernel
theorem dX7_guest_147 : decode cX7_guest 147 = .ok (.getfield 52, 3) := by decide +kernel
theorem dX7_guest_150 : decode cX7_guest 150 = .ok (.aload_n 0, 1) := by decide +kernel
theorem dX7_guest_151 : decode cX7_guest 151 = .ok (.getfield 52, 3) := by decide +kernel
theorem dX7_guest_154 : decode cX7_guest 154 = .ok (.getfield 121, 3) := by decide +kernel
theorem dX7_guest_157 : decode cX7_guest 157 = .ok (.invokevirtual 133, 3) := by decide +kernel
theorem dX7_guest_160 : decode cX7_guest 160 = .ok (.ifCond .eq 7, 3) := by decide +kernel
theorem dX7_guest_163 : decode cX7_guest 163 = .ok (.iconst 1, 1) := by decide +kernel
theorem dX7_guest_164 : decode cX7_guest 164 = .ok (.goto 4, 3) := by decide +kernel
theorem dX7_guest_167 : decode cX7_guest 167 = .ok (.iconst 0, 1) := by decide +kernel
theorem dX7_guest_168 : decode cX7_guest 168 = .ok (.ireturn, 1) := by decide +kernel
theorem dX7_guest_169 : decode cX7_guest 169 = .ok (.iconst (-1), 1) := by decide +kernel
theorem dX7_guest_170 : decode cX7_guest 170 = .ok (.ireturn, 1) := by decide +kernel
theorem dX7_bed_0 : decode cX7_bed 0 = .ok (.aload_n 0, 1) := by decide +kernel
theorem dX7_bed_1 : decode cX7_bed 1 = .ok (.getfield 62, 3) := by decide +kernel
theorem dX7_bed_4 : decode cX7_bed 4 = .ok (.iload_n 1, 1) := by decide +kernel
theorem dX7_bed_5 : decode cX7_bed 5 = .ok (.invokevirtual 137, 3) := by decide +kernel
theorem dX7_bed_8 : decode cX7_bed 8 = .ok (.ifCond .eq 21, 3) := by decide +kernel
theorem dX7_bed_11 : decode cX7_bed 11 = .ok (.aload_n 0, 1) := by decide +kernel
theorem dX7_bed_12 : decode cX7_bed 12 = .ok (.getfield 52, 3) := by decide +kernel
theorem dX7_bed_15 : decode cX7_bed 15 = .ok (.iload_n 1, 1) := by decide +kernel
theorem dX7_bed_16 : decode cX7_bed 16 = .ok (.aload_n 0, 1) := by decide +kernel
theorem dX7_bed_17 : decode cX7_bed 17 = .ok (.getfield 62, 3) := by decide +kernel
theorem dX7_bed_20 : decode cX7_bed 20 = .ok (.invokevirtual 99, 3) := by decide +kernel
theorem dX7_bed_23 : decode cX7_bed 23 = .ok (.invokevirtual 140, 3) := by decide +kernel
theorem dX7_bed_26 : decode cX7_bed 26 = .ok (.goto 4, 3) := by decide +kernel
theorem dX7_bed_29 : decode cX7_bed 29 = .ok (.iconst (-1), 1) := by decide +kernel
theorem dX7_bed_30 : decode cX7_bed 30 = .ok (.ireturn, 1) := by decide +kernel
theorem dX7_wall_0 : decode cX7_wall 0 = .ok (.aload_n 0, 1) := by decide +kernel
theorem dX7_wall_1 : decode cX7_wall 1 = .ok (.getfield 62, 3) := by decide +kernel
theorem dX7_wall_4 : decode cX7_wall 4 = .ok (.iload_n 1, 1) := by decide +kernel
theorem dX7_wall_5 : decode cX7_wall 5 = .ok (.invokevirtual 143, 3) := by decide +kernel
theorem dX7_wall_8 : decode cX7_wall 8 = .ok (.ifCond .ne 5, 3) := by decide +kernel
theorem dX7_wall_11 : decode cX7_wall 11 = .ok (.iconst (-1), 1) := by decide +kernel
theorem dX7_wall_12 : decode cX7_wall 12 = .ok (.ireturn, 1) := by decide +kernel
theorem dX7_wall_13 : decode cX7_wall 13 = .ok (.aload_n 0, 1) := by decide +kernel
theorem dX7_wall_14 : decode cX7_wall 14 = .ok (.getfield 52, 3) := by decide +kernel
theorem dX7_wall_17 : decode cX7_wall 17 = .ok (.iload_n 1, 1) := by decide +kernel
theorem dX7_wall_18 : decode cX7_wall 18 = .ok (.invokevirtual 146, 3) := by decide +kernel
theorem dX7_wall_21 : decode cX7_wall 21 = .ok (.ifCond .eq 7, 3) := by decide +kernel
theorem dX7_wall_24 : decode cX7_wall 24 = .ok (.iconst 1, 1) := by decide +kernel
theorem dX7_wall_25 : decode cX7_wall 25 = .ok (.goto 4, 3) := by decide +kernel
theorem dX7_wall_28 : decode cX7_wall 28 = .ok (.iconst 0, 1) := by decide +kernel
theorem dX7_wall_29 : decode cX7_wall 29 = .ok (.ireturn, 1) := by decide +kernel
theorem dX7_carry_0 : decode cX7_carry 0 = .ok (.aload_n 0, 1) := by decide +kernel
theorem dX7_carry_1 : decode cX7_carry 1 = .ok (.getfield 62, 3) := by decide +kernel
theorem dX7_carry_4 : decode cX7_carry 4 = .ok (.iload_n 1, 1) := by decide +kernel
theorem dX7_carry_5 : decode cX7_carry 5 = .ok (.invokevirtual 102, 3) := by decide +kernel
theorem dX7_carry_8 : decode cX7_carry 8 = .ok (.ifCond .eq 14, 3) := by decide +kernel
theorem dX7_carry_11 : decode cX7_carry 11 = .ok (.aload_n 0, 1) := by decide +kernel
theorem dX7_carry_12 : decode cX7_carry 12 = .ok (.getfield 62, 3) := by decide +kernel
theorem dX7_carry_15 : decode cX7_carry 15 = .ok (.iload_n 2, 1) := by decide +kernel
theorem dX7_carry_16 : decode cX7_carry 16 = .ok (.invokevirtual 137, 3) := by decide +kernel
theorem dX7_carry_19 : decode cX7_carry 19 = .ok (.ifCond .ne 5, 3) := by decide +kernel
theorem dX7_carry_22 : decode cX7_carry 22 = .ok (.iconst (-1), 1) := by decide +kernel
theorem dX7_carry_23 : decode cX7_carry 23 = .ok (.ireturn, 1) := by decide +kernel
theorem dX7_carry_24 : decode cX7_carry 24 = .ok (.aload_n 0, 1) := by decide +kernel
theorem dX7_carry_25 : decode cX7_carry 25 = .ok (.getfield 52, 3) := by decide +kernel
theorem dX7_carry_28 : decode cX7_carry 28 = .ok (.iload_n 2, 1) := by decide +kernel
theorem dX7_carry_29 : decode cX7_carry 29 = .ok (.aload_n 0, 1) := by decide +kernel
theorem dX7_carry_30 : decode cX7_carry 30 = .ok (.getfield 62, 3) := by decide +kernel
theorem dX7_carry_33 : decode cX7_carry 33 = .ok (.invokevirtual 99, 3) := by decide +kernel
theorem dX7_carry_36 : decode cX7_carry 36 = .ok (.invokevirtual 149, 3) := by decide +kernel
theorem dX7_carry_39 : decode cX7_carry 39 = .ok (.ifCond .ne 6, 3) := by decide +kernel
theorem dX7_carry_42 : decode cX7_carry 42 = .ok (.bipush (-2), 2) := by decide +kernel
theorem dX7_carry_44 : decode cX7_carry 44 = .ok (.ireturn, 1) := by decide +kernel
theorem dX7_carry_45 : decode cX7_carry 45 = .ok (.aload_n 0, 1) := by decide +kernel
theorem dX7_carry_46 : decode cX7_carry 46 = .ok (.getfield 42, 3) := by decide +kernel
theorem dX7_carry_49 : decode cX7_carry 49 = .ok (.aload_n 0, 1) := by decide +kernel
theorem dX7_carry_50 : decode cX7_carry 50 = .ok (.getfield 52, 3) := by decide +kernel
theorem dX7_carry_53 : decode cX7_carry 53 = .ok (.invokevirtual 153, 3) := by decide +kernel
theorem dX7_carry_56 : decode cX7_carry 56 = .ok (.aload_n 0, 1) := by decide +kernel
theorem dX7_carry_57 : decode cX7_carry 57 = .ok (.aload_n 0, 1) := by decide +kernel
theorem dX7_carry_58 : decode cX7_carry 58 = .ok (.getfield 52, 3) := by decide +kernel
theorem dX7_carry_61 : decode cX7_carry 61 = .ok (.iload_n 1, 1) := by decide +kernel
theorem dX7_carry_62 : decode cX7_carry 62 = .ok (.iload_n 2, 1) := by decide +kernel
theorem dX7_carry_63 : decode cX7_carry 63 = .ok (.invokevirtual 157, 3) := by decide +kernel
theorem dX7_carry_66 : decode cX7_carry 66 = .ok (.ireturn, 1) := by decide +kernel
theorem dX7_stuff_0 : decode cX7_stuff 0 = .ok (.aload_n 0, 1) := by decide +kernel
theorem dX7_stuff_1 : decode cX7_stuff 1 = .ok (.getfield 62, 3) := by decide +kernel
theorem dX7_stuff_4 : decode cX7_stuff 4 = .ok (.iload_n 1, 1) := by decide +kernel
theorem dX7_stuff_5 : decode cX7_stuff 5 = .ok (.invokevirtual 143, 3) := by decide +kernel
theorem dX7_stuff_8 : decode cX7_stuff 8 = .ok (.ifCond .ne 5, 3) := by decide +kernel
theorem dX7_stuff_11 : decode cX7_stuff 11 = .ok (.iconst (-1), 1) := by decide +kernel
theorem dX7_stuff_12 : decode cX7_stuff 12 = .ok (.ireturn, 1) := by decide +kernel
theorem dX7_stuff_13 : decode cX7_stuff 13 = .ok (.aload_n 0, 1) := by decide +kernel
theorem dX7_stuff_14 : decode cX7_stuff 14 = .ok (.getfield 42, 3) := by decide +kernel
theorem dX7_stuff_17 : decode cX7_stuff 17 = .ok (.aload_n 0, 1) := by decide +kernel
theorem dX7_stuff_18 : decode cX7_stuff 18 = .ok (.getfield 52, 3) := by decide +kernel
theorem dX7_stuff_21 : decode cX7_stuff 21 = .ok (.invokevirtual 153, 3) := by decide +kernel
theorem dX7_stuff_24 : decode cX7_stuff 24 = .ok (.aload_n 0, 1) := by decide +kernel
theorem dX7_stuff_25 : decode cX7_stuff 25 = .ok (.getfield 52, 3) := by decide +kernel
theorem dX7_stuff_28 : decode cX7_stuff 28 = .ok (.iload_n 1, 1) := by decide +kernel
theorem dX7_stuff_29 : decode cX7_stuff 29 = .ok (.invokevirtual 161, 3) := by decide +kernel
theorem dX7_stuff_32 : decode cX7_stuff 32 = .ok (.aload_n 0, 1) := by decide +kernel
theorem dX7_stuff_33 : decode cX7_stuff 33 = .ok (.getfield 52, 3) := by decide +kernel
theorem dX7_stuff_36 : decode cX7_stuff 36 = .ok (.iload_n 1, 1) := by decide +kernel
theorem dX7_stuff_37 : decode cX7_stuff 37 = .ok (.invokevirtual 146, 3) := by decide +kernel
theorem dX7_stuff_40 : decode cX7_stuff 40 = .ok (.ifCond .eq 7, 3) := by decide +kernel
theorem dX7_stuff_43 : decode cX7_stuff 43 = .ok (.iconst 1, 1) := by decide +kernel
theorem dX7_stuff_44 : decode cX7_stuff 44 = .ok (.goto 4, 3) := by decide +kernel
theorem dX7_stuff_47 : decode cX7_stuff 47 = .ok (.iconst 0, 1) := by decide +kernel
theorem dX7_stuff_48 : decode cX7_stuff 48 = .ok (.ireturn, 1) := by decide +kernel
theorem dX7_hour_0 : decode cX7_hour 0 = .ok (.aload_n 0, 1) := by decide +kernel
theorem dX7_hour_1 : decode cX7_hour 1 = .ok (.getfield 42, 3) := by decide +kernel
theorem dX7_hour_4 : decode cX7_hour 4 = .ok (.aload_n 0, 1) := by decide +kernel
theorem dX7_hour_5 : decode cX7_hour 5 = .ok (.getfield 52, 3) := by decide +kernel
theorem dX7_hour_8 : decode cX7_hour 8 = .ok (.invokevirtual 153, 3) := by decide +kernel
theorem dX7_hour_11 : decode cX7_hour 11 = .ok (.aload_n 0, 1) := by decide +kernel
theorem dX7_hour_12 : decode cX7_hour 12 = .ok (.getfield 52, 3) := by decide +kernel
theorem dX7_hour_15 : decode cX7_hour 15 = .ok (.invokevirtual 164, 3) := by decide +kernel
theorem dX7_hour_18 : decode cX7_hour 18 = .ok (.aload_n 0, 1) := by decide +kernel
theorem dX7_hour_19 : decode cX7_hour 19 = .ok (.getfield 52, 3) := by decide +kernel
theorem dX7_hour_22 : decode cX7_hour 22 = .ok (.getfield 121, 3) := by decide +kernel
theorem dX7_hour_25 : decode cX7_hour 25 = .ok (.ireturn, 1) := by decide +kernel
theorem dX7_undo_0 : decode cX7_undo 0 = .ok (.aload_n 0, 1) := by decide +kernel
theorem dX7_undo_1 : decode cX7_undo 1 = .ok (.getfield 42, 3) := by decide +kernel
theorem dX7_undo_4 : decode cX7_undo 4 = .ok (.aload_n 0, 1) := by decide +kernel
theorem dX7_undo_5 : decode cX7_undo 5 = .ok (.getfield 52, 3) := by decide +kernel
theorem dX7_undo_8 : decode cX7_undo 8 = .ok (.invokevirtual 167, 3) := by decide +kernel
theorem dX7_undo_11 : decode cX7_undo 11 = .ok (.ifCond .eq 13, 3) := by decide +kernel
theorem dX7_undo_14 : decode cX7_undo 14 = .ok (.aload_n 0, 1) := by decide +kernel
theorem dX7_undo_15 : decode cX7_undo 15 = .ok (.getfield 42, 3) := by decide +kernel
theorem dX7_undo_18 : decode cX7_undo 18 = .ok (.invokevirtual 171, 3) := by decide +kernel
theorem dX7_undo_21 : decode cX7_undo 21 = .ok (.goto 5, 3) := by decide +kernel
theorem dX7_undo_24 : decode cX7_undo 24 = .ok (.bipush (-2), 2) := by decide +kernel
theorem dX7_undo_26 : decode cX7_undo 26 = .ok (.ireturn, 1) := by decide +kernel
theorem dX7_law_0 : decode cX7_law 0 = .ok (.iload_n 1, 1) := by decide +kernel
theorem dX7_law_1 : decode cX7_law 1 = .ok (.iconst (-1), 1) := by decide +kernel
theorem dX7_law_2 : decode cX7_law 2 = .ok (.if_icmp .ne 16, 3) := by decide +kernel
theorem dX7_law_5 : decode cX7_law 5 = .ok (.aload_n 0, 1) := by decide +kernel
theorem dX7_law_6 : decode cX7_law 6 = .ok (.invokevirtual 174, 3) := by decide +kernel
theorem dX7_law_9 : decode cX7_law 9 = .ok (.ifCond .eq 7, 3) := by decide +kernel
theorem dX7_law_12 : decode cX7_law 12 = .ok (.iconst 1, 1) := by decide +kernel
theorem dX7_law_13 : decode cX7_law 13 = .ok (.goto 4, 3) := by decide +kernel
theorem dX7_law_16 : decode cX7_law 16 = .ok (.iconst 0, 1) := by decide +kernel
theorem dX7_law_17 : decode cX7_law 17 = .ok (.ireturn, 1) := by decide +kernel
theorem dX7_law_18 : decode cX7_law 18 = .ok (.aload_n 0, 1) := by decide +kernel
theorem dX7_law_19 : decode cX7_law 19 = .ok (.getfield 62, 3) := by decide +kernel
theorem dX7_law_22 : decode cX7_law 22 = .ok (.iload_n 1, 1) := by decide +kernel
theorem dX7_law_23 : decode cX7_law 23 = .ok (.invokevirtual 102, 3) := by decide +kernel
theorem dX7_law_26 : decode cX7_law 26 = .ok (.ifCond .eq 21, 3) := by decide +kernel
theorem dX7_law_29 : decode cX7_law 29 = .ok (.aload_n 0, 1) := by decide +kernel
theorem dX7_law_30 : decode cX7_law 30 = .ok (.getfield 62, 3) := by decide +kernel
theorem dX7_law_33 : decode cX7_law 33 = .ok (.iload_n 1, 1) := by decide +kernel
theorem dX7_law_34 : decode cX7_law 34 = .ok (.aload_n 0, 1) := by decide +kernel
theorem dX7_law_35 : decode cX7_law 35 = .ok (.getfield 52, 3) := by decide +kernel
theorem dX7_law_38 : decode cX7_law 38 = .ok (.getfield 121, 3) := by decide +kernel
theorem dX7_law_41 : decode cX7_law 41 = .ok (.invokevirtual 178, 3) := by decide +kernel
theorem dX7_law_44 : decode cX7_law 44 = .ok (.goto 4, 3) := by decide +kernel
theorem dX7_law_47 : decode cX7_law 47 = .ok (.iconst (-1), 1) := by decide +kernel
theorem dX7_law_48 : decode cX7_law 48 = .ok (.ireturn, 1) := by decide +kernel
theorem dX7_moves_0 : decode cX7_moves 0 = .ok (.iload_n 1, 1) := by decide +kernel
theorem dX7_moves_1 : decode cX7_moves 1 = .ok (.ifCond .eq 10, 3) := by decide +kernel
theorem dX7_moves_4 : decode cX7_moves 4 = .ok (.iload_n 1, 1) := by decide +kernel
theorem dX7_moves_5 : decode cX7_moves 5 = .ok (.iconst 1, 1) := by decide +kernel
theorem dX7_moves_6 : decode cX7_moves 6 = .ok (.if_icmp .eq 5, 3) := by decide +kernel
theorem dX7_moves_9 : decode cX7_moves 9 = .ok (.iconst (-1), 1) := by decide +kernel
theorem dX7_moves_10 : decode cX7_moves 10 = .ok (.ireturn, 1) := by decide +kernel
theorem dX7_moves_11 : decode cX7_moves 11 = .ok (.aload_n 0, 1) := by decide +kernel
theorem dX7_moves_12 : decode cX7_moves 12 = .ok (.getfield 33, 3) := by decide +kernel
theorem dX7_moves_15 : decode cX7_moves 15 = .ok (.aload_n 0, 1) := by decide +kernel
theorem dX7_moves_16 : decode cX7_moves 16 = .ok (.getfield 62, 3) := by decide +kernel
theorem dX7_moves_19 : decode cX7_moves 19 = .ok (.aload_n 0, 1) := by decide +kernel
theorem dX7_moves_20 : decode cX7_moves 20 = .ok (.getfield 52, 3) := by decide +kernel
theorem dX7_moves_23 : decode cX7_moves 23 = .ok (.aload_n 0, 1) := by decide +kernel
theorem dX7_moves_24 : decode cX7_moves 24 = .ok (.getfield 26, 3) := by decide +kernel
theorem dX7_moves_27 : decode cX7_moves 27 = .ok (.invokevirtual 181, 3) := by decide +kernel
theorem dX7_moves_30 : decode cX7_moves 30 = .ok (.aload_n 0, 1) := by decide +kernel
theorem dX7_moves_31 : decode cX7_moves 31 = .ok (.getfield 33, 3) := by decide +kernel
theorem dX7_moves_34 : decode cX7_moves 34 = .ok (.aload_n 0, 1) := by decide +kernel
theorem dX7_moves_35 : decode cX7_moves 35 = .ok (.getfield 52, 3) := by decide +kernel
theorem dX7_moves_38 : decode cX7_moves 38 = .ok (.getfield 185, 3) := by decide +kernel
theorem dX7_moves_41 : decode cX7_moves 41 = .ok (.aload_n 0, 1) := by decide +kernel
theorem dX7_moves_42 : decode cX7_moves 42 = .ok (.getfield 26, 3) := by decide +kernel
theorem dX7_moves_45 : decode cX7_moves 45 = .ok (.invokevirtual 189, 3) := by decide +kernel
theorem dX7_moves_48 : decode cX7_moves 48 = .ok (.istore_n 2, 1) := by decide +kernel
theorem dX7_moves_49 : decode cX7_moves 49 = .ok (.iload_n 1, 1) := by decide +kernel
theorem dX7_moves_50 : decode cX7_moves 50 = .ok (.ifCond .eq 9, 3) := by decide +kernel
theorem dX7_moves_53 : decode cX7_moves 53 = .ok (.iload_n 2, 1) := by decide +kernel
theorem dX7_moves_54 : decode cX7_moves 54 = .ok (.bipush (-4), 2) := by decide +kernel
theorem dX7_moves_56 : decode cX7_moves 56 = .ok (.if_icmp .ne 5, 3) := by decide +kernel
theorem dX7_moves_59 : decode cX7_moves 59 = .ok (.iload_n 2, 1) := by decide +kernel
theorem dX7_moves_60 : decode cX7_moves 60 = .ok (.ireturn, 1) := by decide +kernel
theorem dX7_moves_61 : decode cX7_moves 61 = .ok (.iload_n 2, 1) := by decide +kernel
theorem dX7_moves_62 : decode cX7_moves 62 = .ok (.ifCond .ne 8, 3) := by decide +kernel
theorem dX7_moves_65 : decode cX7_moves 65 = .ok (.bipush (-4), 2) := by decide +kernel
theorem dX7_moves_67 : decode cX7_moves 67 = .ok (.goto 22, 3) := by decide +kernel
theorem dX7_moves_70 : decode cX7_moves 70 = .ok (.aload_n 0, 1) := by decide +kernel
theorem dX7_moves_71 : decode cX7_moves 71 = .ok (.getfield 33, 3) := by decide +kernel
theorem dX7_moves_74 : decode cX7_moves 74 = .ok (.aload_n 0, 1) := by decide +kernel
theorem dX7_moves_75 : decode cX7_moves 75 = .ok (.getfield 62, 3) := by decide +kernel
theorem dX7_moves_78 : decode cX7_moves 78 = .ok (.aload_n 0, 1) := by decide +kernel
theorem dX7_moves_79 : decode cX7_moves 79 = .ok (.getfield 52, 3) := by decide +kernel
theorem dX7_moves_82 : decode cX7_moves 82 = .ok (.aload_n 0, 1) := by decide +kernel
theorem dX7_moves_83 : decode cX7_moves 83 = .ok (.getfield 26, 3) := by decide +kernel
theorem dX7_moves_86 : decode cX7_moves 86 = .ok (.invokevirtual 193, 3) := by decide +kernel
theorem dX7_moves_89 : decode cX7_moves 89 = .ok (.ireturn, 1) := by decide +kernel
theorem dX7_best_0 : decode cX7_best 0 = .ok (.iload_n 1, 1) := by decide +kernel
theorem dX7_best_1 : decode cX7_best 1 = .ok (.invokestatic 197, 3) := by decide +kernel
theorem dX7_best_4 : decode cX7_best 4 = .ok (.ifCond .eq 11, 3) := by decide +kernel
theorem dX7_best_7 : decode cX7_best 7 = .ok (.aload_n 0, 1) := by decide +kernel
theorem dX7_best_8 : decode cX7_best 8 = .ok (.iload_n 2, 1) := by decide +kernel
theorem dX7_best_9 : decode cX7_best 9 = .ok (.invokevirtual 200, 3) := by decide +kernel
theorem dX7_best_12 : decode cX7_best 12 = .ok (.ifCond .ne 5, 3) := by decide +kernel
theorem dX7_best_15 : decode cX7_best 15 = .ok (.iconst (-1), 1) := by decide +kernel
theorem dX7_best_16 : decode cX7_best 16 = .ok (.ireturn, 1) := by decide +kernel
theorem dX7_best_17 : decode cX7_best 17 = .ok (.bipush 6, 2) := by decide +kernel
theorem dX7_best_19 : decode cX7_best 19 = .ok (.istore_n 3, 1) := by decide +kernel
theorem dX7_best_20 : decode cX7_best 20 = .ok (.iconst 0, 1) := by decide +kernel
theorem dX7_best_21 : decode cX7_best 21 = .ok (.istore 4, 2) := by decide +kernel
theorem dX7_best_23 : decode cX7_best 23 = .ok (.aload_n 0, 1) := by decide +kernel
theorem dX7_best_24 : decode cX7_best 24 = .ok (.getfield 56, 3) := by decide +kernel
theorem dX7_best_27 : decode cX7_best 27 = .ok (.aload_n 0, 1) := by decide +kernel
theorem dX7_best_28 : decode cX7_best 28 = .ok (.getfield 52, 3) := by decide +kernel
theorem dX7_best_31 : decode cX7_best 31 = .ok (.invokevirtual 203, 3) := by decide +kernel
theorem dX7_best_34 : decode cX7_best 34 = .ok (.iconst 0, 1) := by decide +kernel
theorem dX7_best_35 : decode cX7_best 35 = .ok (.istore 5, 2) := by decide +kernel
theorem dX7_best_37 : decode cX7_best 37 = .ok (.iload 5, 2) := by decide +kernel
theorem dX7_best_39 : decode cX7_best 39 = .ok (.aload_n 0, 1) := by decide +kernel
theorem dX7_best_40 : decode cX7_best 40 = .ok (.getfield 26, 3) := by decide +kernel
theorem dX7_best_43 : decode cX7_best 43 = .ok (.invokevirtual 206, 3) := by decide +kernel
theorem dX7_best_46 : decode cX7_best 46 = .ok (.if_icmp .ge 59, 3) := by decide +kernel
theorem dX7_best_49 : decode cX7_best 49 = .ok (.iload_n 3, 1) := by decide +kernel
theorem dX7_best_50 : decode cX7_best 50 = .ok (.ifCond .le 55, 3) := by decide +kernel
theorem dX7_best_53 : decode cX7_best 53 = .ok (.aload_n 0, 1) := by decide +kernel
theorem dX7_best_54 : decode cX7_best 54 = .ok (.getfield 26, 3) := by decide +kernel
theorem dX7_best_57 : decode cX7_best 57 = .ok (.iload 5, 2) := by decide +kernel
theorem dX7_best_59 : decode cX7_best 59 = .ok (.aload_n 0, 1) := by decide +kernel
theorem dX7_best_60 : decode cX7_best 60 = .ok (.getfield 56, 3) := by decide +kernel
theorem dX7_best_63 : decode cX7_best 63 = .ok (.getfield 185, 3) := by decide +kernel
theorem dX7_best_66 : decode cX7_best 66 = .ok (.invokevirtual 209, 3) := by decide +kernel
theorem dX7_best_69 : decode cX7_best 69 = .ok (.aload_n 0, 1) := by decide +kernel
theorem dX7_best_70 : decode cX7_best 70 = .ok (.getfield 62, 3) := by decide +kernel
theorem dX7_best_73 : decode cX7_best 73 = .ok (.aload_n 0, 1) := by decide +kernel
theorem dX7_best_74 : decode cX7_best 74 = .ok (.getfield 56, 3) := by decide +kernel
theorem dX7_best_77 : decode cX7_best 77 = .ok (.iload_n 1, 1) := by decide +kernel
theorem dX7_best_78 : decode cX7_best 78 = .ok (.invokevirtual 213, 3) := by decide +kernel
theorem dX7_best_81 : decode cX7_best 81 = .ok (.invokestatic 217, 3) := by decide +kernel
theorem dX7_best_84 : decode cX7_best 84 = .ok (.istore 6, 2) := by decide +kernel
theorem dX7_best_86 : decode cX7_best 86 = .ok (.iload 6, 2) := by decide +kernel
theorem dX7_best_88 : decode cX7_best 88 = .ok (.iload_n 3, 1) := by decide +kernel
theorem dX7_best_89 : decode cX7_best 89 = .ok (.if_icmp .ge 10, 3) := by decide +kernel
theorem dX7_best_92 : decode cX7_best 92 = .ok (.iload 6, 2) := by decide +kernel
theorem dX7_best_94 : decode cX7_best 94 = .ok (.istore_n 3, 1) := by decide +kernel
theorem dX7_best_95 : decode cX7_best 95 = .ok (.iload 5, 2) := by decide +kernel
theorem dX7_best_97 : decode cX7_best 97 = .ok (.istore 4, 2) := by decide +kernel
theorem dX7_best_99 : decode cX7_best 99 = .ok (.iinc 5 1, 3) := by decide +kernel
theorem dX7_best_102 : decode cX7_best 102 = .ok (.goto (-65), 3) := by decide +kernel
theorem dX7_best_105 : decode cX7_best 105 = .ok (.iload_n 2, 1) := by decide +kernel
theorem dX7_best_106 : decode cX7_best 106 = .ok (.iconst (-1), 1) := by decide +kernel
theorem dX7_best_107 : decode cX7_best 107 = .ok (.if_icmp .ne 7, 3) := by decide +kernel
theorem dX7_best_110 : decode cX7_best 110 = .ok (.iload_n 3, 1) := by decide +kernel
theorem dX7_best_111 : decode cX7_best 111 = .ok (.goto 10, 3) := by decide +kernel
theorem dX7_best_114 : decode cX7_best 114 = .ok (.aload_n 0, 1) := by decide +kernel
theorem dX7_best_115 : decode cX7_best 115 = .ok (.iload 4, 2) := by decide +kernel
theorem dX7_best_117 : decode cX7_best 117 = .ok (.iload_n 2, 1) := by decide +kernel
theorem dX7_best_118 : decode cX7_best 118 = .ok (.invokevirtual 222, 3) := by decide +kernel
theorem dX7_best_121 : decode cX7_best 121 = .ok (.ireturn, 1) := by decide +kernel
theorem dX7_wallTo_0 : decode cX7_wallTo 0 = .ok (.iload_n 1, 1) := by decide +kernel
theorem dX7_wallTo_1 : decode cX7_wallTo 1 = .ok (.ifCond .eq 10, 3) := by decide +kernel
theorem dX7_wallTo_4 : decode cX7_wallTo 4 = .ok (.iload_n 1, 1) := by decide +kernel
theorem dX7_wallTo_5 : decode cX7_wallTo 5 = .ok (.iconst 1, 1) := by decide +kernel
theorem dX7_wallTo_6 : decode cX7_wallTo 6 = .ok (.if_icmp .eq 5, 3) := by decide +kernel
theorem dX7_wallTo_9 : decode cX7_wallTo 9 = .ok (.iconst (-1), 1) := by decide +kernel
theorem dX7_wallTo_10 : decode cX7_wallTo 10 = .ok (.ireturn, 1) := by decide +kernel
theorem dX7_wallTo_11 : decode cX7_wallTo 11 = .ok (.bipush (-4), 2) := by decide +kernel
theorem dX7_wallTo_13 : decode cX7_wallTo 13 = .ok (.istore_n 2, 1) := by decide +kernel
theorem dX7_wallTo_14 : decode cX7_wallTo 14 = .ok (.bipush (-4), 2) := by decide +kernel
theorem dX7_wallTo_16 : decode cX7_wallTo 16 = .ok (.istore_n 3, 1) := by decide +kernel
theorem dX7_wallTo_17 : decode cX7_wallTo 17 = .ok (.iconst 0, 1) := by decide +kernel
theorem dX7_wallTo_18 : decode cX7_wallTo 18 = .ok (.istore 4, 2) := by decide +kernel
theorem dX7_wallTo_20 : decode cX7_wallTo 20 = .ok (.iload 4, 2) := by decide +kernel
theorem dX7_wallTo_22 : decode cX7_wallTo 22 = .ok (.aload_n 0, 1) := by decide +kernel
theorem dX7_wallTo_23 : decode cX7_wallTo 23 = .ok (.getfield 62, 3) := by decide +kernel
theorem dX7_wallTo_26 : decode cX7_wallTo 26 = .ok (.invokevirtual 225, 3) := by decide +kernel
theorem dX7_wallTo_29 : decode cX7_wallTo 29 = .ok (.iconst 1, 1) := by decide +kernel
theorem dX7_wallTo_30 : decode cX7_wallTo 30 = .ok (.isub, 1) := by decide +kernel
theorem dX7_wallTo_31 : decode cX7_wallTo 31 = .ok (.if_icmp .ge 72, 3) := by decide +kernel
theorem dX7_wallTo_34 : decode cX7_wallTo 34 = .ok (.aload_n 0, 1) := by decide +kernel
theorem dX7_wallTo_35 : decode cX7_wallTo 35 = .ok (.getfield 52, 3) := by decide +kernel
theorem dX7_wallTo_38 : decode cX7_wallTo 38 = .ok (.iload 4, 2) := by decide +kernel
theorem dX7_wallTo_40 : decode cX7_wallTo 40 = .ok (.invokevirtual 146, 3) := by decide +kernel
theorem dX7_wallTo_43 : decode cX7_wallTo 43 = .ok (.ifCond .ne 54, 3) := by decide +kernel
theorem dX7_wallTo_46 : decode cX7_wallTo 46 = .ok (.aload_n 0, 1) := by decide +kernel
theorem dX7_wallTo_47 : decode cX7_wallTo 47 = .ok (.getfield 56, 3) := by decide +kernel
theorem dX7_wallTo_50 : decode cX7_wallTo 50 = .ok (.aload_n 0, 1) := by decide +kernel
theorem dX7_wallTo_51 : decode cX7_wallTo 51 = .ok (.getfield 52, 3) := by decide +kernel
theorem dX7_wallTo_54 : decode cX7_wallTo 54 = .ok (.invokevirtual 203, 3) := by decide +kernel
theorem dX7_wallTo_57 : decode cX7_wallTo 57 = .ok (.aload_n 0, 1) := by decide +kernel
theorem dX7_wallTo_58 : decode cX7_wallTo 58 = .ok (.getfield 56, 3) := by decide +kernel
theorem dX7_wallTo_61 : decode cX7_wallTo 61 = .ok (.iload 4, 2) := by decide +kernel
theorem dX7_wallTo_63 : decode cX7_wallTo 63 = .ok (.invokevirtual 161, 3) := by decide +kernel
theorem dX7_wallTo_66 : decode cX7_wallTo 66 = .ok (.aload_n 0, 1) := by decide +kernel
theorem dX7_wallTo_67 : decode cX7_wallTo 67 = .ok (.getfield 62, 3) := by decide +kernel
theorem dX7_wallTo_70 : decode cX7_wallTo 70 = .ok (.aload_n 0, 1) := by decide +kernel
theorem dX7_wallTo_71 : decode cX7_wallTo 71 = .ok (.getfield 56, 3) := by decide +kernel
theorem dX7_wallTo_74 : decode cX7_wallTo 74 = .ok (.invokevirtual 228, 3) := by decide +kernel
theorem dX7_wallTo_77 : decode cX7_wallTo 77 = .ok (.istore 5, 2) := by decide +kernel
theorem dX7_wallTo_79 : decode cX7_wallTo 79 = .ok (.iload_n 2, 1) := by decide +kernel
theorem dX7_wallTo_80 : decode cX7_wallTo 80 = .ok (.bipush (-4), 2) := by decide +kernel
theorem dX7_wallTo_82 : decode cX7_wallTo 82 = .ok (.if_icmp .eq 9, 3) := by decide +kernel
theorem dX7_wallTo_85 : decode cX7_wallTo 85 = .ok (.iload 5, 2) := by decide +kernel
theorem dX7_wallTo_87 : decode cX7_wallTo 87 = .ok (.iload_n 3, 1) := by decide +kernel
theorem dX7_wallTo_88 : decode cX7_wallTo 88 = .ok (.if_icmp .ge 9, 3) := by decide +kernel
theorem dX7_wallTo_91 : decode cX7_wallTo 91 = .ok (.iload 5, 2) := by decide +kernel
theorem dX7_wallTo_93 : decode cX7_wallTo 93 = .ok (.istore_n 3, 1) := by decide +kernel
theorem dX7_wallTo_94 : decode cX7_wallTo 94 = .ok (.iload 4, 2) := by decide +kernel
theorem dX7_wallTo_96 : decode cX7_wallTo 96 = .ok (.istore_n 2, 1) := by decide +kernel
theorem dX7_wallTo_97 : decode cX7_wallTo 97 = .ok (.iinc 4 1, 3) := by decide +kernel
theorem dX7_wallTo_100 : decode cX7_wallTo 100 = .ok (.goto (-80), 3) := by decide +kernel
theorem dX7_wallTo_103 : decode cX7_wallTo 103 = .ok (.iload_n 1, 1) := by decide +kernel
theorem dX7_wallTo_104 : decode cX7_wallTo 104 = .ok (.ifCond .ne 7, 3) := by decide +kernel
theorem dX7_wallTo_107 : decode cX7_wallTo 107 = .ok (.iload_n 2, 1) := by decide +kernel
theorem dX7_wallTo_108 : decode cX7_wallTo 108 = .ok (.goto 4, 3) := by decide +kernel
theorem dX7_wallTo_111 : decode cX7_wallTo 111 = .ok (.iload_n 3, 1) := by decide +kernel
theorem dX7_wallTo_112 : decode cX7_wallTo 112 = .ok (.ireturn, 1) := by decide +kernel
theorem dX7_within_0 : decode cX7_within 0 = .ok (.iload_n 1, 1) := by decide +kernel
theorem dX7_within_1 : decode cX7_within 1 = .ok (.ifCond .lt 17, 3) := by decide +kernel
theorem dX7_within_4 : decode cX7_within 4 = .ok (.iload_n 1, 1) := by decide +kernel
theorem dX7_within_5 : decode cX7_within 5 = .ok (.bipush 40, 2) := by decide +kernel
theorem dX7_within_7 : decode cX7_within 7 = .ok (.if_icmp .gt 11, 3) := by decide +kernel
theorem dX7_within_10 : decode cX7_within 10 = .ok (.aload_n 0, 1) := by decide +kernel
theorem dX7_within_11 : decode cX7_within 11 = .ok (.iload_n 2, 1) := by decide +kernel
theorem dX7_within_12 : decode cX7_within 12 = .ok (.invokevirtual 200, 3) := by decide +kernel
theorem dX7_within_15 : decode cX7_within 15 = .ok (.ifCond .ne 5, 3) := by decide +kernel
theorem dX7_within_18 : decode cX7_within 18 = .ok (.iconst (-1), 1) := by decide +kernel
theorem dX7_within_19 : decode cX7_within 19 = .ok (.ireturn, 1) := by decide +kernel
theorem dX7_within_20 : decode cX7_within 20 = .ok (.iconst 0, 1) := by decide +kernel
theorem dX7_within_21 : decode cX7_within 21 = .ok (.istore_n 3, 1) := by decide +kernel
theorem dX7_within_22 : decode cX7_within 22 = .ok (.iconst 0, 1) := by decide +kernel
theorem dX7_within_23 : decode cX7_within 23 = .ok (.istore 4, 2) := by decide +kernel
theorem dX7_within_25 : decode cX7_within 25 = .ok (.aload_n 0, 1) := by decide +kernel
theorem dX7_within_26 : decode cX7_within 26 = .ok (.getfield 56, 3) := by decide +kernel
theorem dX7_within_29 : decode cX7_within 29 = .ok (.aload_n 0, 1) := by decide +kernel
theorem dX7_within_30 : decode cX7_within 30 = .ok (.getfield 52, 3) := by decide +kernel
theorem dX7_within_33 : decode cX7_within 33 = .ok (.invokevirtual 203, 3) := by decide +kernel
theorem dX7_within_36 : decode cX7_within 36 = .ok (.iconst 0, 1) := by decide +kernel
theorem dX7_within_37 : decode cX7_within 37 = .ok (.istore 5, 2) := by decide +kernel
theorem dX7_within_39 : decode cX7_within 39 = .ok (.iload 5, 2) := by decide +kernel
theorem dX7_within_41 : decode cX7_within 41 = .ok (.aload_n 0, 1) := by decide +kernel
theorem dX7_within_42 : decode cX7_within 42 = .ok (.getfield 26, 3) := by decide +kernel
theorem dX7_within_45 : decode cX7_within 45 = .ok (.invokevirtual 206, 3) := by decide +kernel
theorem dX7_within_48 : decode cX7_within 48 = .ok (.if_icmp .ge 58, 3) := by decide +kernel
theorem dX7_within_51 : decode cX7_within 51 = .ok (.aload_n 0, 1) := by decide +kernel
theorem dX7_within_52 : decode cX7_within 52 = .ok (.getfield 26, 3) := by decide +kernel
theorem dX7_within_55 : decode cX7_within 55 = .ok (.iload 5, 2) := by decide +kernel
theorem dX7_within_57 : decode cX7_within 57 = .ok (.aload_n 0, 1) := by decide +kernel
theorem dX7_within_58 : decode cX7_within 58 = .ok (.getfield 56, 3) := by decide +kernel
theorem dX7_within_61 : decode cX7_within 61 = .ok (.getfield 185, 3) := by decide +kernel
theorem dX7_within_64 : decode cX7_within 64 = .ok (.invokevirtual 209, 3) := by decide +kernel
theorem dX7_within_67 : decode cX7_within 67 = .ok (.aload_n 0, 1) := by decide +kernel
theorem dX7_within_68 : decode cX7_within 68 = .ok (.getfield 62, 3) := by decide +kernel
theorem dX7_within_71 : decode cX7_within 71 = .ok (.aload_n 0, 1) := by decide +kernel
theorem dX7_within_72 : decode cX7_within 72 = .ok (.getfield 56, 3) := by decide +kernel
theorem dX7_within_75 : decode cX7_within 75 = .ok (.aload_n 0, 1) := by decide +kernel
theorem dX7_within_76 : decode cX7_within 76 = .ok (.getfield 52, 3) := by decide +kernel
theorem dX7_within_79 : decode cX7_within 79 = .ok (.getfield 121, 3) := by decide +kernel
theorem dX7_within_82 : decode cX7_within 82 = .ok (.iload_n 1, 1) := by decide +kernel
theorem dX7_within_83 : decode cX7_within 83 = .ok (.invokevirtual 232, 3) := by decide +kernel
theorem dX7_within_86 : decode cX7_within 86 = .ok (.ifCond .eq 14, 3) := by decide +kernel
theorem dX7_within_89 : decode cX7_within 89 = .ok (.iload_n 3, 1) := by decide +kernel
theorem dX7_within_90 : decode cX7_within 90 = .ok (.ifCond .ne 7, 3) := by decide +kernel
theorem dX7_within_93 : decode cX7_within 93 = .ok (.iload 5, 2) := by decide +kernel
theorem dX7_within_95 : decode cX7_within 95 = .ok (.istore 4, 2) := by decide +kernel
theorem dX7_within_97 : decode cX7_within 97 = .ok (.iinc 3 1, 3) := by decide +kernel
theorem dX7_within_100 : decode cX7_within 100 = .ok (.iinc 5 1, 3) := by decide +kernel
theorem dX7_within_103 : decode cX7_within 103 = .ok (.goto (-64), 3) := by decide +kernel
theorem dX7_within_106 : decode cX7_within 106 = .ok (.iload_n 3, 1) := by decide +kernel
theorem dX7_within_107 : decode cX7_within 107 = .ok (.ifCond .ne 6, 3) := by decide +kernel
theorem dX7_within_110 : decode cX7_within 110 = .ok (.bipush (-4), 2) := by decide +kernel
theorem dX7_within_112 : decode cX7_within 112 = .ok (.ireturn, 1) := by decide +kernel
theorem dX7_within_113 : decode cX7_within 113 = .ok (.iload_n 2, 1) := by decide +kernel
theorem dX7_within_114 : decode cX7_within 114 = .ok (.iconst (-1), 1) := by decide +kernel
theorem dX7_within_115 : decode cX7_within 115 = .ok (.if_icmp .ne 7, 3) := by decide +kernel
theorem dX7_within_118 : decode cX7_within 118 = .ok (.iload_n 3, 1) := by decide +kernel
theorem dX7_within_119 : decode cX7_within 119 = .ok (.goto 10, 3) := by decide +kernel
theorem dX7_within_122 : decode cX7_within 122 = .ok (.aload_n 0, 1) := by decide +kernel
theorem dX7_within_123 : decode cX7_within 123 = .ok (.iload 4, 2) := by decide +kernel
theorem dX7_within_125 : decode cX7_within 125 = .ok (.iload_n 2, 1) := by decide +kernel
theorem dX7_within_126 : decode cX7_within 126 = .ok (.invokevirtual 222, 3) := by decide +kernel
theorem dX7_within_129 : decode cX7_within 129 = .ok (.ireturn, 1) := by decide +kernel
theorem dX7_night_0 : decode cX7_night 0 = .ok (.iload_n 1, 1) := by decide +kernel
theorem dX7_night_1 : decode cX7_night 1 = .ok (.iconst (-1), 1) := by decide +kernel
theorem dX7_night_2 : decode cX7_night 2 = .ok (.if_icmp .ne 15, 3) := by decide +kernel
theorem dX7_night_5 : decode cX7_night 5 = .ok (.aload_n 0, 1) := by decide +kernel
theorem dX7_night_6 : decode cX7_night 6 = .ok (.getfield 62, 3) := by decide +kernel
theorem dX7_night_9 : decode cX7_night 9 = .ok (.aload_n 0, 1) := by decide +kernel
theorem dX7_night_10 : decode cX7_night 10 = .ok (.getfield 52, 3) := by decide +kernel
theorem dX7_night_13 : decode cX7_night 13 = .ok (.invokevirtual 228, 3) := by decide +kernel
theorem dX7_night_16 : decode cX7_night 16 = .ok (.ireturn, 1) := by decide +kernel
theorem dX7_night_17 : decode cX7_night 17 = .ok (.iload_n 1, 1) := by decide +kernel
theorem dX7_night_18 : decode cX7_night 18 = .ok (.invokestatic 197, 3) := by decide +kernel
theorem dX7_night_21 : decode cX7_night 21 = .ok (.ifCond .eq 18, 3) := by decide +kernel
theorem dX7_night_24 : decode cX7_night 24 = .ok (.aload_n 0, 1) := by decide +kernel
theorem dX7_night_25 : decode cX7_night 25 = .ok (.getfield 62, 3) := by decide +kernel
theorem dX7_night_28 : decode cX7_night 28 = .ok (.aload_n 0, 1) := by decide +kernel
theorem dX7_night_29 : decode cX7_night 29 = .ok (.getfield 52, 3) := by decide +kernel
theorem dX7_night_32 : decode cX7_night 32 = .ok (.iload_n 1, 1) := by decide +kernel
theorem dX7_night_33 : decode cX7_night 33 = .ok (.invokevirtual 213, 3) := by decide +kernel
theorem dX7_night_36 : decode cX7_night 36 = .ok (.goto 4, 3) := by decide +kernel
theorem dX7_night_39 : decode cX7_night 39 = .ok (.iconst (-1), 1) := by decide +kernel
theorem dX7_night_40 : decode cX7_night 40 = .ok (.ireturn, 1) := by decide +kernel
theorem dX7_heard_0 : decode cX7_heard 0 = .ok (.aload_n 0, 1) := by decide +kernel
theorem dX7_heard_1 : decode cX7_heard 1 = .ok (.getfield 62, 3) := by decide +kernel
theorem dX7_heard_4 : decode cX7_heard 4 = .ok (.iload_n 1, 1) := by decide +kernel
theorem dX7_heard_5 : decode cX7_heard 5 = .ok (.invokevirtual 102, 3) := by decide +kernel
theorem dX7_heard_8 : decode cX7_heard 8 = .ok (.ifCond .eq 19, 3) := by decide +kernel
theorem dX7_heard_11 : decode cX7_heard 11 = .ok (.iload_n 2, 1) := by decide +kernel
theorem dX7_heard_12 : decode cX7_heard 12 = .ok (.invokestatic 197, 3) := by decide +kernel
theorem dX7_heard_15 : decode cX7_heard 15 = .ok (.ifCond .eq 12, 3) := by decide +kernel
theorem dX7_heard_18 : decode cX7_heard 18 = .ok (.iload_n 3, 1) := by decide +kernel
theorem dX7_heard_19 : decode cX7_heard 19 = .ok (.ifCond .eq 10, 3) := by decide +kernel
theorem dX7_heard_22 : decode cX7_heard 22 = .ok (.iload_n 3, 1) := by decide +kernel
theorem dX7_heard_23 : decode cX7_heard 23 = .ok (.iconst 1, 1) := by decide +kernel
theorem dX7_heard_24 : decode cX7_heard 24 = .ok (.if_icmp .eq 5, 3) := by decide +kernel
theorem dX7_heard_27 : decode cX7_heard 27 = .ok (.iconst (-1), 1) := by decide +kernel
theorem dX7_heard_28 : decode cX7_heard 28 = .ok (.ireturn, 1) := by decide +kernel
theorem dX7_heard_29 : decode cX7_heard 29 = .ok (.aload_n 0, 1) := by decide +kernel
theorem dX7_heard_30 : decode cX7_heard 30 = .ok (.getfield 19, 3) := by decide +kernel
theorem dX7_heard_33 : decode cX7_heard 33 = .ok (.iload_n 1, 1) := by decide +kernel
theorem dX7_heard_34 : decode cX7_heard 34 = .ok (.iload_n 2, 1) := by decide +kernel
theorem dX7_heard_35 : decode cX7_heard 35 = .ok (.iload_n 3, 1) := by decide +kernel
theorem dX7_heard_36 : decode cX7_heard 36 = .ok (.iconst 1, 1) := by decide +kernel
theorem dX7_heard_37 : decode cX7_heard 37 = .ok (.if_icmp .ne 7, 3) := by decide +kernel
theorem dX7_heard_40 : decode cX7_heard 40 = .ok (.iconst 1, 1) := by decide +kernel
theorem dX7_heard_41 : decode cX7_heard 41 = .ok (.goto 4, 3) := by decide +kernel
theorem dX7_heard_44 : decode cX7_heard 44 = .ok (.iconst 0, 1) := by decide +kernel
theorem dX7_heard_45 : decode cX7_heard 45 = .ok (.invokevirtual 236, 3) := by decide +kernel
theorem dX7_heard_48 : decode cX7_heard 48 = .ok (.ifCond .eq 13, 3) := by decide +kernel
theorem dX7_heard_51 : decode cX7_heard 51 = .ok (.aload_n 0, 1) := by decide +kernel
theorem dX7_heard_52 : decode cX7_heard 52 = .ok (.getfield 19, 3) := by decide +kernel
theorem dX7_heard_55 : decode cX7_heard 55 = .ok (.invokevirtual 239, 3) := by decide +kernel
theorem dX7_heard_58 : decode cX7_heard 58 = .ok (.goto 5, 3) := by decide +kernel
theorem dX7_heard_61 : decode cX7_heard 61 = .ok (.bipush (-3), 2) := by decide +kernel
theorem dX7_heard_63 : decode cX7_heard 63 = .ok (.ireturn, 1) := by decide +kernel
theorem dX7_forget_0 : decode cX7_forget 0 = .ok (.aload_n 0, 1) := by decide +kernel
theorem dX7_forget_1 : decode cX7_forget 1 = .ok (.getfield 19, 3) := by decide +kernel
theorem dX7_forget_4 : decode cX7_forget 4 = .ok (.invokevirtual 239, 3) := by decide +kernel
theorem dX7_forget_7 : decode cX7_forget 7 = .ok (.istore_n 1, 1) := by decide +kernel
theorem dX7_forget_8 : decode cX7_forget 8 = .ok (.aload_n 0, 1) := by decide +kernel
theorem dX7_forget_9 : decode cX7_forget 9 = .ok (.getfield 19, 3) := by decide +kernel
theorem dX7_forget_12 : decode cX7_forget 12 = .ok (.invokevirtual 240, 3) := by decide +kernel
theorem dX7_forget_15 : decode cX7_forget 15 = .ok (.iload_n 1, 1) := by decide +kernel
theorem dX7_forget_16 : decode cX7_forget 16 = .ok (.ireturn, 1) := by decide +kernel
theorem dX7_feigned_0 : decode cX7_feigned 0 = .ok (.iconst 0, 1) := by decide +kernel
theorem dX7_feigned_1 : decode cX7_feigned 1 = .ok (.istore_n 1, 1) := by decide +kernel
theorem dX7_feigned_2 : decode cX7_feigned 2 = .ok (.iconst 0, 1) := by decide +kernel
theorem dX7_feigned_3 : decode cX7_feigned 3 = .ok (.istore_n 2, 1) := by decide +kernel
theorem dX7_feigned_4 : decode cX7_feigned 4 = .ok (.iload_n 2, 1) := by decide +kernel
theorem dX7_feigned_5 : decode cX7_feigned 5 = .ok (.aload_n 0, 1) := by decide +kernel
theorem dX7_feigned_6 : decode cX7_feigned 6 = .ok (.getfield 62, 3) := by decide +kernel
theorem dX7_feigned_9 : decode cX7_feigned 9 = .ok (.invokevirtual 99, 3) := by decide +kernel
theorem dX7_feigned_12 : decode cX7_feigned 12 = .ok (.if_icmp .ge 52, 3) := by decide +kernel
theorem dX7_feigned_15 : decode cX7_feigned 15 = .ok (.aload_n 0, 1) := by decide +kernel
theorem dX7_feigned_16 : decode cX7_feigned 16 = .ok (.getfield 69, 3) := by decide +kernel
theorem dX7_feigned_19 : decode cX7_feigned 19 = .ok (.aload_n 0, 1) := by decide +kernel
theorem dX7_feigned_20 : decode cX7_feigned 20 = .ok (.getfield 62, 3) := by decide +kernel
theorem dX7_feigned_23 : decode cX7_feigned 23 = .ok (.invokevirtual 241, 3) := by decide +kernel
theorem dX7_feigned_26 : decode cX7_feigned 26 = .ok (.aload_n 0, 1) := by decide +kernel
theorem dX7_feigned_27 : decode cX7_feigned 27 = .ok (.getfield 69, 3) := by decide +kernel
theorem dX7_feigned_30 : decode cX7_feigned 30 = .ok (.iload_n 2, 1) := by decide +kernel
theorem dX7_feigned_31 : decode cX7_feigned 31 = .ok (.invokevirtual 244, 3) := by decide +kernel
theorem dX7_feigned_34 : decode cX7_feigned 34 = .ok (.aload_n 0, 1) := by decide +kernel
theorem dX7_feigned_35 : decode cX7_feigned 35 = .ok (.getfield 19, 3) := by decide +kernel
theorem dX7_feigned_38 : decode cX7_feigned 38 = .ok (.aload_n 0, 1) := by decide +kernel
theorem dX7_feigned_39 : decode cX7_feigned 39 = .ok (.getfield 69, 3) := by decide +kernel
theorem dX7_feigned_42 : decode cX7_feigned 42 = .ok (.aload_n 0, 1) := by decide +kernel
theorem dX7_feigned_43 : decode cX7_feigned 43 = .ok (.getfield 52, 3) := by decide +kernel
theorem dX7_feigned_46 : decode cX7_feigned 46 = .ok (.invokevirtual 247, 3) := by decide +kernel
theorem dX7_feigned_49 : decode cX7_feigned 49 = .ok (.ifCond .eq 9, 3) := by decide +kernel
theorem dX7_feigned_52 : decode cX7_feigned 52 = .ok (.iload_n 1, 1) := by decide +kernel
theorem dX7_feigned_53 : decode cX7_feigned 53 = .ok (.iconst 1, 1) := by decide +kernel
theorem dX7_feigned_54 : decode cX7_feigned 54 = .ok (.iload_n 2, 1) := by decide +kernel
theorem dX7_feigned_55 : decode cX7_feigned 55 = .ok (.ishl, 1) := by decide +kernel
theorem dX7_feigned_56 : decode cX7_feigned 56 = .ok (.ior, 1) := by decide +kernel
theorem dX7_feigned_57 : decode cX7_feigned 57 = .ok (.istore_n 1, 1) := by decide +kernel
theorem dX7_feigned_58 : decode cX7_feigned 58 = .ok (.iinc 2 1, 3) := by decide +kernel
theorem dX7_feigned_61 : decode cX7_feigned 61 = .ok (.goto (-57), 3) := by decide +kernel
theorem dX7_feigned_64 : decode cX7_feigned 64 = .ok (.iload_n 1, 1) := by decide +kernel
theorem dX7_feigned_65 : decode cX7_feigned 65 = .ok (.ireturn, 1) := by decide +kernel
theorem dX7_hums_0 : decode cX7_hums 0 = .ok (.aload_n 0, 1) := by decide +kernel
theorem dX7_hums_1 : decode cX7_hums 1 = .ok (.getfield 62, 3) := by decide +kernel
theorem dX7_hums_4 : decode cX7_hums 4 = .ok (.iload_n 1, 1) := by decide +kernel
theorem dX7_hums_5 : decode cX7_hums 5 = .ok (.invokevirtual 102, 3) := by decide +kernel
theorem dX7_hums_8 : decode cX7_hums 8 = .ok (.ifCond .eq 18, 3) := by decide +kernel
theorem dX7_hums_11 : decode cX7_hums 11 = .ok (.aload_n 0, 1) := by decide +kernel
theorem dX7_hums_12 : decode cX7_hums 12 = .ok (.getfield 62, 3) := by decide +kernel
theorem dX7_hums_15 : decode cX7_hums 15 = .ok (.iload_n 1, 1) := by decide +kernel
theorem dX7_hums_16 : decode cX7_hums 16 = .ok (.aload_n 0, 1) := by decide +kernel
theorem dX7_hums_17 : decode cX7_hums 17 = .ok (.getfield 52, 3) := by decide +kernel
theorem dX7_hums_20 : decode cX7_hums 20 = .ok (.invokevirtual 251, 3) := by decide +kernel
theorem dX7_hums_23 : decode cX7_hums 23 = .ok (.goto 4, 3) := by decide +kernel
theorem dX7_hums_26 : decode cX7_hums 26 = .ok (.iconst (-1), 1) := by decide +kernel
theorem dX7_hums_27 : decode cX7_hums 27 = .ok (.ireturn, 1) := by decide +kernel
theorem dX7_odds_0 : decode cX7_odds 0 = .ok (.aload_n 0, 1) := by decide +kernel
theorem dX7_odds_1 : decode cX7_odds 1 = .ok (.getfield 62, 3) := by decide +kernel
theorem dX7_odds_4 : decode cX7_odds 4 = .ok (.iload_n 1, 1) := by decide +kernel
theorem dX7_odds_5 : decode cX7_odds 5 = .ok (.invokevirtual 102, 3) := by decide +kernel
theorem dX7_odds_8 : decode cX7_odds 8 = .ok (.ifCond .eq 22, 3) := by decide +kernel
theorem dX7_odds_11 : decode cX7_odds 11 = .ok (.iload_n 2, 1) := by decide +kernel
theorem dX7_odds_12 : decode cX7_odds 12 = .ok (.ifCond .lt 18, 3) := by decide +kernel
theorem dX7_odds_15 : decode cX7_odds 15 = .ok (.iload_n 2, 1) := by decide +kernel
theorem dX7_odds_16 : decode cX7_odds 16 = .ok (.bipush 10, 2) := by decide +kernel
theorem dX7_odds_18 : decode cX7_odds 18 = .ok (.if_icmp .gt 12, 3) := by decide +kernel
theorem dX7_odds_21 : decode cX7_odds 21 = .ok (.iload_n 3, 1) := by decide +kernel
theorem dX7_odds_22 : decode cX7_odds 22 = .ok (.ifCond .eq 10, 3) := by decide +kernel
theorem dX7_odds_25 : decode cX7_odds 25 = .ok (.iload_n 3, 1) := by decide +kernel
theorem dX7_odds_26 : decode cX7_odds 26 = .ok (.iconst 1, 1) := by decide +kernel
theorem dX7_odds_27 : decode cX7_odds 27 = .ok (.if_icmp .eq 5, 3) := by decide +kernel
theorem dX7_odds_30 : decode cX7_odds 30 = .ok (.iconst (-1), 1) := by decide +kernel
theorem dX7_odds_31 : decode cX7_odds 31 = .ok (.ireturn, 1) := by decide +kernel
theorem dX7_odds_32 : decode cX7_odds 32 = .ok (.aload_n 0, 1) := by decide +kernel
theorem dX7_odds_33 : decode cX7_odds 33 = .ok (.iload_n 1, 1) := by decide +kernel
theorem dX7_odds_34 : decode cX7_odds 34 = .ok (.iload_n 2, 1) := by decide +kernel
theorem dX7_odds_35 : decode cX7_odds 35 = .ok (.invokevirtual 255, 3) := by decide +kernel
theorem dX7_odds_38 : decode cX7_odds 38 = .ok (.bipush 100, 2) := by decide +kernel
theorem dX7_odds_40 : decode cX7_odds 40 = .ok (.iload_n 3, 1) := by decide +kernel
theorem dX7_odds_41 : decode cX7_odds 41 = .ok (.invokestatic 258, 3) := by decide +kernel
theorem dX7_odds_44 : decode cX7_odds 44 = .ok (.ireturn, 1) := by decide +kernel
theorem dX7_steps_0 : decode cX7_steps 0 = .ok (.iload_n 1, 1) := by decide +kernel
theorem dX7_steps_1 : decode cX7_steps 1 = .ok (.tableswitch 51 0 2 #[27, 35, 43], 27) := by decide +kernel
theorem dX7_steps_28 : decode cX7_steps 28 = .ok (.aload_n 0, 1) := by decide +kernel
theorem dX7_steps_29 : decode cX7_steps 29 = .ok (.getfield 52, 3) := by decide +kernel
theorem dX7_steps_32 : decode cX7_steps 32 = .ok (.getfield 262, 3) := by decide +kernel
theorem dX7_steps_35 : decode cX7_steps 35 = .ok (.ireturn, 1) := by decide +kernel
theorem dX7_steps_36 : decode cX7_steps 36 = .ok (.aload_n 0, 1) := by decide +kernel
theorem dX7_steps_37 : decode cX7_steps 37 = .ok (.getfield 52, 3) := by decide +kernel
theorem dX7_steps_40 : decode cX7_steps 40 = .ok (.getfield 265, 3) := by decide +kernel
theorem dX7_steps_43 : decode cX7_steps 43 = .ok (.ireturn, 1) := by decide +kernel
theorem dX7_steps_44 : decode cX7_steps 44 = .ok (.aload_n 0, 1) := by decide +kernel
theorem dX7_steps_45 : decode cX7_steps 45 = .ok (.getfield 52, 3) := by decide +kernel
theorem dX7_steps_48 : decode cX7_steps 48 = .ok (.getfield 268, 3) := by decide +kernel
theorem dX7_steps_51 : decode cX7_steps 51 = .ok (.ireturn, 1) := by decide +kernel
theorem dX7_steps_52 : decode cX7_steps 52 = .ok (.iconst (-1), 1) := by decide +kernel
theorem dX7_steps_53 : decode cX7_steps 53 = .ok (.ireturn, 1) := by decide +kernel
theorem dX7_day_0 : decode cX7_day 0 = .ok (.iload_n 1, 1) := by decide +kernel
theorem dX7_day_1 : decode cX7_day 1 = .ok (.ifCond .lt 30, 3) := by decide +kernel
theorem dX7_day_4 : decode cX7_day 4 = .ok (.iload_n 1, 1) := by decide +kernel
theorem dX7_day_5 : decode cX7_day 5 = .ok (.sipush 9999, 3) := by decide +kernel
theorem dX7_day_8 : decode cX7_day 8 = .ok (.if_icmp .gt 23, 3) := by decide +kernel
theorem dX7_day_11 : decode cX7_day 11 = .ok (.iload_n 2, 1) := by decide +kernel
theorem dX7_day_12 : decode cX7_day 12 = .ok (.iconst 1, 1) := by decide +kernel
theorem dX7_day_13 : decode cX7_day 13 = .ok (.if_icmp .lt 18, 3) := by decide +kernel
theorem dX7_day_16 : decode cX7_day 16 = .ok (.iload_n 2, 1) := by decide +kernel
theorem dX7_day_17 : decode cX7_day 17 = .ok (.bipush 30, 2) := by decide +kernel
theorem dX7_day_19 : decode cX7_day 19 = .ok (.if_icmp .gt 12, 3) := by decide +kernel
theorem dX7_day_22 : decode cX7_day 22 = .ok (.iload_n 3, 1) := by decide +kernel
theorem dX7_day_23 : decode cX7_day 23 = .ok (.ifCond .eq 10, 3) := by decide +kernel
theorem dX7_day_26 : decode cX7_day 26 = .ok (.iload_n 3, 1) := by decide +kernel
theorem dX7_day_27 : decode cX7_day 27 = .ok (.iconst 1, 1) := by decide +kernel
theorem dX7_day_28 : decode cX7_day 28 = .ok (.if_icmp .eq 5, 3) := by decide +kernel
theorem dX7_day_31 : decode cX7_day 31 = .ok (.iconst (-1), 1) := by decide +kernel
theorem dX7_day_32 : decode cX7_day 32 = .ok (.ireturn, 1) := by decide +kernel
theorem dX7_day_33 : decode cX7_day 33 = .ok (.aload_n 0, 1) := by decide +kernel
theorem dX7_day_34 : decode cX7_day 34 = .ok (.getfield 56, 3) := by decide +kernel
theorem dX7_day_37 : decode cX7_day 37 = .ok (.aload_n 0, 1) := by decide +kernel
theorem dX7_day_38 : decode cX7_day 38 = .ok (.getfield 52, 3) := by decide +kernel
theorem dX7_day_41 : decode cX7_day 41 = .ok (.invokevirtual 203, 3) := by decide +kernel
theorem dX7_day_44 : decode cX7_day 44 = .ok (.iconst 0, 1) := by decide +kernel
theorem dX7_day_45 : decode cX7_day 45 = .ok (.istore 4, 2) := by decide +kernel
theorem dX7_day_47 : decode cX7_day 47 = .ok (.iload 4, 2) := by decide +kernel
theorem dX7_day_49 : decode cX7_day 49 = .ok (.iload_n 2, 1) := by decide +kernel
theorem dX7_day_50 : decode cX7_day 50 = .ok (.if_icmp .ge 34, 3) := by decide +kernel
theorem dX7_day_53 : decode cX7_day 53 = .ok (.aload_n 0, 1) := by decide +kernel
theorem dX7_day_54 : decode cX7_day 54 = .ok (.iload_n 1, 1) := by decide +kernel
theorem dX7_day_55 : decode cX7_day 55 = .ok (.iload 4, 2) := by decide +kernel
theorem dX7_day_57 : decode cX7_day 57 = .ok (.invokestatic 271, 3) := by decide +kernel
theorem dX7_day_60 : decode cX7_day 60 = .ok (.invokevirtual 274, 3) := by decide +kernel
theorem dX7_day_63 : decode cX7_day 63 = .ok (.iload 4, 2) := by decide +kernel
theorem dX7_day_65 : decode cX7_day 65 = .ok (.iconst 4, 1) := by decide +kernel
theorem dX7_day_66 : decode cX7_day 66 = .ok (.irem, 1) := by decide +kernel
theorem dX7_day_67 : decode cX7_day 67 = .ok (.iconst 3, 1) := by decide +kernel
theorem dX7_day_68 : decode cX7_day 68 = .ok (.if_icmp .ne 10, 3) := by decide +kernel
theorem dX7_day_71 : decode cX7_day 71 = .ok (.aload_n 0, 1) := by decide +kernel
theorem dX7_day_72 : decode cX7_day 72 = .ok (.getfield 56, 3) := by decide +kernel
theorem dX7_day_75 : decode cX7_day 75 = .ok (.invokevirtual 164, 3) := by decide +kernel
theorem dX7_day_78 : decode cX7_day 78 = .ok (.iinc 4 1, 3) := by decide +kernel
theorem dX7_day_81 : decode cX7_day 81 = .ok (.goto (-34), 3) := by decide +kernel
theorem dX7_day_84 : decode cX7_day 84 = .ok (.iload_n 3, 1) := by decide +kernel
theorem dX7_day_85 : decode cX7_day 85 = .ok (.ifCond .ne 19, 3) := by decide +kernel
theorem dX7_day_88 : decode cX7_day 88 = .ok (.aload_n 0, 1) := by decide +kernel
theorem dX7_day_89 : decode cX7_day 89 = .ok (.getfield 56, 3) := by decide +kernel
theorem dX7_day_92 : decode cX7_day 92 = .ok (.getfield 268, 3) := by decide +kernel
theorem dX7_day_95 : decode cX7_day 95 = .ok (.aload_n 0, 1) := by decide +kernel
theorem dX7_day_96 : decode cX7_day 96 = .ok (.getfield 52, 3) := by decide +kernel
theorem dX7_day_99 : decode cX7_day 99 = .ok (.getfield 268, 3) := by decide +kernel
theorem dX7_day_102 : decode cX7_day 102 = .ok (.isub, 1) := by decide +kernel
theorem dX7_day_103 : decode cX7_day 103 = .ok (.ireturn, 1) := by decide +kernel
theorem dX7_day_104 : decode cX7_day 104 = .ok (.aload_n 0, 1) := by decide +kernel
theorem dX7_day_105 : decode cX7_day 105 = .ok (.getfield 62, 3) := by decide +kernel
theorem dX7_day_108 : decode cX7_day 108 = .ok (.aload_n 0, 1) := by decide +kernel
theorem dX7_day_109 : decode cX7_day 109 = .ok (.getfield 56, 3) := by decide +kernel
theorem dX7_day_112 : decode cX7_day 112 = .ok (.aload_n 0, 1) := by decide +kernel
theorem dX7_day_113 : decode cX7_day 113 = .ok (.getfield 56, 3) := by decide +kernel
theorem dX7_day_116 : decode cX7_day 116 = .ok (.getfield 121, 3) := by decide +kernel
theorem dX7_day_119 : decode cX7_day 119 = .ok (.invokevirtual 213, 3) := by decide +kernel
theorem dX7_day_122 : decode cX7_day 122 = .ok (.invokestatic 217, 3) := by decide +kernel
theorem dX7_day_125 : decode cX7_day 125 = .ok (.ireturn, 1) := by decide +kernel
theorem dX7_keep_0 : decode cX7_keep 0 = .ok (.aload_n 0, 1) := by decide +kernel
theorem dX7_keep_1 : decode cX7_keep 1 = .ok (.getfield 46, 3) := by decide +kernel
theorem dX7_keep_4 : decode cX7_keep 4 = .ok (.invokevirtual 277, 3) := by decide +kernel
theorem dX7_keep_7 : decode cX7_keep 7 = .ok (.ifCond .eq 6, 3) := by decide +kernel
theorem dX7_keep_10 : decode cX7_keep 10 = .ok (.bipush (-3), 2) := by decide +kernel
theorem dX7_keep_12 : decode cX7_keep 12 = .ok (.ireturn, 1) := by decide +kernel
theorem dX7_keep_13 : decode cX7_keep 13 = .ok (.aload_n 0, 1) := by decide +kernel
theorem dX7_keep_14 : decode cX7_keep 14 = .ok (.getfield 46, 3) := by decide +kernel
theorem dX7_keep_17 : decode cX7_keep 17 = .ok (.aload_n 0, 1) := by decide +kernel
theorem dX7_keep_18 : decode cX7_keep 18 = .ok (.getfield 52, 3) := by decide +kernel
theorem dX7_keep_21 : decode cX7_keep 21 = .ok (.invokevirtual 153, 3) := by decide +kernel
theorem dX7_keep_24 : decode cX7_keep 24 = .ok (.aload_n 0, 1) := by decide +kernel
theorem dX7_keep_25 : decode cX7_keep 25 = .ok (.getfield 46, 3) := by decide +kernel
theorem dX7_keep_28 : decode cX7_keep 28 = .ok (.invokevirtual 171, 3) := by decide +kernel
theorem dX7_keep_31 : decode cX7_keep 31 = .ok (.ireturn, 1) := by decide +kernel
theorem dX7_back_0 : decode cX7_back 0 = .ok (.aload_n 0, 1) := by decide +kernel
theorem dX7_back_1 : decode cX7_back 1 = .ok (.getfield 46, 3) := by decide +kernel
theorem dX7_back_4 : decode cX7_back 4 = .ok (.aload_n 0, 1) := by decide +kernel
theorem dX7_back_5 : decode cX7_back 5 = .ok (.getfield 52, 3) := by decide +kernel
theorem dX7_back_8 : decode cX7_back 8 = .ok (.invokevirtual 167, 3) := by decide +kernel
theorem dX7_back_11 : decode cX7_back 11 = .ok (.ifCond .ne 6, 3) := by decide +kernel
theorem dX7_back_14 : decode cX7_back 14 = .ok (.bipush (-2), 2) := by decide +kernel
theorem dX7_back_16 : decode cX7_back 16 = .ok (.ireturn, 1) := by decide +kernel
theorem dX7_back_17 : decode cX7_back 17 = .ok (.aload_n 0, 1) := by decide +kernel
theorem dX7_back_18 : decode cX7_back 18 = .ok (.getfield 42, 3) := by decide +kernel
theorem dX7_back_21 : decode cX7_back 21 = .ok (.invokevirtual 280, 3) := by decide +kernel
theorem dX7_back_24 : decode cX7_back 24 = .ok (.aload_n 0, 1) := by decide +kernel
theorem dX7_back_25 : decode cX7_back 25 = .ok (.getfield 46, 3) := by decide +kernel
theorem dX7_back_28 : decode cX7_back 28 = .ok (.invokevirtual 171, 3) := by decide +kernel
theorem dX7_back_31 : decode cX7_back 31 = .ok (.ireturn, 1) := by decide +kernel
theorem dX7_count_0 : decode cX7_count 0 = .ok (.iload_n 1, 1) := by decide +kernel
theorem dX7_count_1 : decode cX7_count 1 = .ok (.tableswitch 114 0 7 #[47, 55, 63, 71, 82, 90, 98, 106], 47) := by decide +kernel
theorem dX7_count_48 : decode cX7_count 48 = .ok (.aload_n 0, 1) := by decide +kernel
theorem dX7_count_49 : decode cX7_count 49 = .ok (.getfield 62, 3) := by decide +kernel
theorem dX7_count_52 : decode cX7_count 52 = .ok (.invokevirtual 99, 3) := by decide +kernel
theorem dX7_count_55 : decode cX7_count 55 = .ok (.ireturn, 1) := by decide +kernel
theorem dX7_count_56 : decode cX7_count 56 = .ok (.aload_n 0, 1) := by decide +kernel
theorem dX7_count_57 : decode cX7_count 57 = .ok (.getfield 62, 3) := by decide +kernel
theorem dX7_count_60 : decode cX7_count 60 = .ok (.invokevirtual 225, 3) := by decide +kernel
theorem dX7_count_63 : decode cX7_count 63 = .ok (.ireturn, 1) := by decide +kernel
theorem dX7_count_64 : decode cX7_count 64 = .ok (.aload_n 0, 1) := by decide +kernel
theorem dX7_count_65 : decode cX7_count 65 = .ok (.getfield 52, 3) := by decide +kernel
theorem dX7_count_68 : decode cX7_count 68 = .ok (.getfield 121, 3) := by decide +kernel
theorem dX7_count_71 : decode cX7_count 71 = .ok (.ireturn, 1) := by decide +kernel
theorem dX7_count_72 : decode cX7_count 72 = .ok (.aload_n 0, 1) := by decide +kernel
theorem dX7_count_73 : decode cX7_count 73 = .ok (.getfield 52, 3) := by decide +kernel
theorem dX7_count_76 : decode cX7_count 76 = .ok (.getfield 281, 3) := by decide +kernel
theorem dX7_count_79 : decode cX7_count 79 = .ok (.invokestatic 217, 3) := by decide +kernel
theorem dX7_count_82 : decode cX7_count 82 = .ok (.ireturn, 1) := by decide +kernel
theorem dX7_count_83 : decode cX7_count 83 = .ok (.aload_n 0, 1) := by decide +kernel
theorem dX7_count_84 : decode cX7_count 84 = .ok (.getfield 19, 3) := by decide +kernel
theorem dX7_count_87 : decode cX7_count 87 = .ok (.invokevirtual 239, 3) := by decide +kernel
theorem dX7_count_90 : decode cX7_count 90 = .ok (.ireturn, 1) := by decide +kernel
theorem dX7_count_91 : decode cX7_count 91 = .ok (.aload_n 0, 1) := by decide +kernel
theorem dX7_count_92 : decode cX7_count 92 = .ok (.getfield 42, 3) := by decide +kernel
theorem dX7_count_95 : decode cX7_count 95 = .ok (.invokevirtual 171, 3) := by decide +kernel
theorem dX7_count_98 : decode cX7_count 98 = .ok (.ireturn, 1) := by decide +kernel
theorem dX7_count_99 : decode cX7_count 99 = .ok (.aload_n 0, 1) := by decide +kernel
theorem dX7_count_100 : decode cX7_count 100 = .ok (.getfield 46, 3) := by decide +kernel
theorem dX7_count_103 : decode cX7_count 103 = .ok (.invokevirtual 171, 3) := by decide +kernel
theorem dX7_count_106 : decode cX7_count 106 = .ok (.ireturn, 1) := by decide +kernel
theorem dX7_count_107 : decode cX7_count 107 = .ok (.aload_n 0, 1) := by decide +kernel
theorem dX7_count_108 : decode cX7_count 108 = .ok (.getfield 10, 3) := by decide +kernel
theorem dX7_count_111 : decode cX7_count 111 = .ok (.invokevirtual 98, 3) := by decide +kernel
theorem dX7_count_114 : decode cX7_count 114 = .ok (.ireturn, 1) := by decide +kernel
theorem dX7_count_115 : decode cX7_count 115 = .ok (.iconst (-1), 1) := by decide +kernel
theorem dX7_count_116 : decode cX7_count 116 = .ok (.ireturn, 1) := by decide +kernel
theorem dX7_moveIn_0 : decode cX7_moveIn 0 = .ok (.aload_n 0, 1) := by decide +kernel
theorem dX7_moveIn_1 : decode cX7_moveIn 1 = .ok (.getfield 62, 3) := by decide +kernel
theorem dX7_moveIn_4 : decode cX7_moveIn 4 = .ok (.astore_n 1, 1) := by decide +kernel
theorem dX7_moveIn_5 : decode cX7_moveIn 5 = .ok (.aload_n 0, 1) := by decide +kernel
theorem dX7_moveIn_6 : decode cX7_moveIn 6 = .ok (.aload_n 0, 1) := by decide +kernel
theorem dX7_moveIn_7 : decode cX7_moveIn 7 = .ok (.getfield 66, 3) := by decide +kernel
theorem dX7_moveIn_10 : decode cX7_moveIn 10 = .ok (.putfield 62, 3) := by decide +kernel
theorem dX7_moveIn_13 : decode cX7_moveIn 13 = .ok (.aload_n 0, 1) := by decide +kernel
theorem dX7_moveIn_14 : decode cX7_moveIn 14 = .ok (.aload_n 1, 1) := by decide +kernel
theorem dX7_moveIn_15 : decode cX7_moveIn 15 = .ok (.putfield 66, 3) := by decide +kernel
theorem dX7_moveIn_18 : decode cX7_moveIn 18 = .ok (.aload_n 0, 1) := by decide +kernel
theorem dX7_moveIn_19 : decode cX7_moveIn 19 = .ok (.getfield 52, 3) := by decide +kernel
theorem dX7_moveIn_22 : decode cX7_moveIn 22 = .ok (.aload_n 0, 1) := by decide +kernel
theorem dX7_moveIn_23 : decode cX7_moveIn 23 = .ok (.getfield 62, 3) := by decide +kernel
theorem dX7_moveIn_26 : decode cX7_moveIn 26 = .ok (.invokevirtual 284, 3) := by decide +kernel
theorem dX7_moveIn_29 : decode cX7_moveIn 29 = .ok (.aload_n 0, 1) := by decide +kernel
theorem dX7_moveIn_30 : decode cX7_moveIn 30 = .ok (.getfield 26, 3) := by decide +kernel
theorem dX7_moveIn_33 : decode cX7_moveIn 33 = .ok (.aload_n 0, 1) := by decide +kernel
theorem dX7_moveIn_34 : decode cX7_moveIn 34 = .ok (.getfield 62, 3) := by decide +kernel
theorem dX7_moveIn_37 : decode cX7_moveIn 37 = .ok (.invokevirtual 225, 3) := by decide +kernel
theorem dX7_moveIn_40 : decode cX7_moveIn 40 = .ok (.aload_n 0, 1) := by decide +kernel
theorem dX7_moveIn_41 : decode cX7_moveIn 41 = .ok (.getfield 62, 3) := by decide +kernel
theorem dX7_moveIn_44 : decode cX7_moveIn 44 = .ok (.invokevirtual 99, 3) := by decide +kernel
theorem dX7_moveIn_47 : decode cX7_moveIn 47 = .ok (.invokevirtual 287, 3) := by decide +kernel
theorem dX7_moveIn_50 : decode cX7_moveIn 50 = .ok (.aload_n 0, 1) := by decide +kernel
theorem dX7_moveIn_51 : decode cX7_moveIn 51 = .ok (.getfield 42, 3) := by decide +kernel
theorem dX7_moveIn_54 : decode cX7_moveIn 54 = .ok (.invokevirtual 280, 3) := by decide +kernel
theorem dX7_moveIn_57 : decode cX7_moveIn 57 = .ok (.aload_n 0, 1) := by decide +kernel
theorem dX7_moveIn_58 : decode cX7_moveIn 58 = .ok (.getfield 46, 3) := by decide +kernel
theorem dX7_moveIn_61 : decode cX7_moveIn 61 = .ok (.invokevirtual 280, 3) := by decide +kernel
theorem dX7_moveIn_64 : decode cX7_moveIn 64 = .ok (.aload_n 0, 1) := by decide +kernel
theorem dX7_moveIn_65 : decode cX7_moveIn 65 = .ok (.getfield 19, 3) := by decide +kernel
theorem dX7_moveIn_68 : decode cX7_moveIn 68 = .ok (.invokevirtual 240, 3) := by decide +kernel
theorem dX7_moveIn_71 : decode cX7_moveIn 71 = .ok (.return_, 1) := by decide +kernel
theorem dX7_isHour_0 : decode cX7_isHour 0 = .ok (.iload_n 0, 1) := by decide +kernel
theorem dX7_isHour_1 : decode cX7_isHour 1 = .ok (.ifCond .lt 13, 3) := by decide +kernel
theorem dX7_isHour_4 : decode cX7_isHour 4 = .ok (.iload_n 0, 1) := by decide +kernel
theorem dX7_isHour_5 : decode cX7_isHour 5 = .ok (.bipush 7, 2) := by decide +kernel
theorem dX7_isHour_7 : decode cX7_isHour 7 = .ok (.if_icmp .gt 7, 3) := by decide +kernel
theorem dX7_isHour_10 : decode cX7_isHour 10 = .ok (.iconst 1, 1) := by decide +kernel
theorem dX7_isHour_11 : decode cX7_isHour 11 = .ok (.goto 4, 3) := by decide +kernel
theorem dX7_isHour_14 : decode cX7_isHour 14 = .ok (.iconst 0, 1) := by decide +kernel
theorem dX7_isHour_15 : decode cX7_isHour 15 = .ok (.ireturn, 1) := by decide +kernel
theorem dX7_isGuestOrWhole_0 : decode cX7_isGuestOrWhole 0 = .ok (.iload_n 1, 1) := by decide +kernel
theorem dX7_isGuestOrWhole_1 : decode cX7_isGuestOrWhole 1 = .ok (.iconst (-1), 1) := by decide +kernel
theorem dX7_isGuestOrWhole_2 : decode cX7_isGuestOrWhole 2 = .ok (.if_icmp .eq 14, 3) := by decide +kernel
theorem dX7_isGuestOrWhole_5 : decode cX7_isGuestOrWhole 5 = .ok (.aload_n 0, 1) := by decide +kernel
theorem dX7_isGuestOrWhole_6 : decode cX7_isGuestOrWhole 6 = .ok (.getfield 62, 3) := by decide +kernel
theorem dX7_isGuestOrWhole_9 : decode cX7_isGuestOrWhole 9 = .ok (.iload_n 1, 1) := by decide +kernel
theorem dX7_isGuestOrWhole_10 : decode cX7_isGuestOrWhole 10 = .ok (.invokevirtual 102, 3) := by decide +kernel
theorem dX7_isGuestOrWhole_13 : decode cX7_isGuestOrWhole 13 = .ok (.ifCond .eq 7, 3) := by decide +kernel
theorem dX7_isGuestOrWhole_16 : decode cX7_isGuestOrWhole 16 = .ok (.iconst 1, 1) := by decide +kernel
theorem dX7_isGuestOrWhole_17 : decode cX7_isGuestOrWhole 17 = .ok (.goto 4, 3) := by decide +kernel
theorem dX7_isGuestOrWhole_20 : decode cX7_isGuestOrWhole 20 = .ok (.iconst 0, 1) := by decide +kernel
theorem dX7_isGuestOrWhole_21 : decode cX7_isGuestOrWhole 21 = .ok (.ireturn, 1) := by decide +kernel
theorem dX7_isLawful_0 : decode cX7_isLawful 0 = .ok (.iconst 0, 1) := by decide +kernel
theorem dX7_isLawful_1 : decode cX7_isLawful 1 = .ok (.istore_n 1, 1) := by decide +kernel
theorem dX7_isLawful_2 : decode cX7_isLawful 2 = .ok (.iload_n 1, 1) := by decide +kernel
theorem dX7_isLawful_3 : decode cX7_isLawful 3 = .ok (.aload_n 0, 1) := by decide +kernel
theorem dX7_isLawful_4 : decode cX7_isLawful 4 = .ok (.getfield 62, 3) := by decide +kernel
theorem dX7_isLawful_7 : decode cX7_isLawful 7 = .ok (.invokevirtual 99, 3) := by decide +kernel
theorem dX7_isLawful_10 : decode cX7_isLawful 10 = .ok (.if_icmp .ge 37, 3) := by decide +kernel
theorem dX7_isLawful_13 : decode cX7_isLawful 13 = .ok (.aload_n 0, 1) := by decide +kernel
theorem dX7_isLawful_14 : decode cX7_isLawful 14 = .ok (.getfield 52, 3) := by decide +kernel
theorem dX7_isLawful_17 : decode cX7_isLawful 17 = .ok (.iload_n 1, 1) := by decide +kernel
theorem dX7_isLawful_18 : decode cX7_isLawful 18 = .ok (.invokevirtual 118, 3) := by decide +kernel
theorem dX7_isLawful_21 : decode cX7_isLawful 21 = .ok (.aload_n 0, 1) := by decide +kernel
theorem dX7_isLawful_22 : decode cX7_isLawful 22 = .ok (.getfield 62, 3) := by decide +kernel
theorem dX7_isLawful_25 : decode cX7_isLawful 25 = .ok (.iload_n 1, 1) := by decide +kernel
theorem dX7_isLawful_26 : decode cX7_isLawful 26 = .ok (.aload_n 0, 1) := by decide +kernel
theorem dX7_isLawful_27 : decode cX7_isLawful 27 = .ok (.getfield 52, 3) := by decide +kernel
theorem dX7_isLawful_30 : decode cX7_isLawful 30 = .ok (.getfield 121, 3) := by decide +kernel
theorem dX7_isLawful_33 : decode cX7_isLawful 33 = .ok (.invokevirtual 178, 3) := by decide +kernel
theorem dX7_isLawful_36 : decode cX7_isLawful 36 = .ok (.if_icmp .eq 5, 3) := by decide +kernel
theorem dX7_isLawful_39 : decode cX7_isLawful 39 = .ok (.iconst 0, 1) := by decide +kernel
theorem dX7_isLawful_40 : decode cX7_isLawful 40 = .ok (.ireturn, 1) := by decide +kernel
theorem dX7_isLawful_41 : decode cX7_isLawful 41 = .ok (.iinc 1 1, 3) := by decide +kernel
theorem dX7_isLawful_44 : decode cX7_isLawful 44 = .ok (.goto (-42), 3) := by decide +kernel
theorem dX7_isLawful_47 : decode cX7_isLawful 47 = .ok (.iconst 1, 1) := by decide +kernel
theorem dX7_isLawful_48 : decode cX7_isLawful 48 = .ok (.ireturn, 1) := by decide +kernel
theorem dX7_placeInWay_0 : decode cX7_placeInWay 0 = .ok (.aload_n 0, 1) := by decide +kernel
theorem dX7_placeInWay_1 : decode cX7_placeInWay 1 = .ok (.getfield 26, 3) := by decide +kernel
theorem dX7_placeInWay_4 : decode cX7_placeInWay 4 = .ok (.iload_n 1, 1) := by decide +kernel
theorem dX7_placeInWay_5 : decode cX7_placeInWay 5 = .ok (.aload_n 0, 1) := by decide +kernel
theorem dX7_placeInWay_6 : decode cX7_placeInWay 6 = .ok (.getfield 56, 3) := by decide +kernel
theorem dX7_placeInWay_9 : decode cX7_placeInWay 9 = .ok (.getfield 185, 3) := by decide +kernel
theorem dX7_placeInWay_12 : decode cX7_placeInWay 12 = .ok (.invokevirtual 209, 3) := by decide +kernel
theorem dX7_placeInWay_15 : decode cX7_placeInWay 15 = .ok (.aload_n 0, 1) := by decide +kernel
theorem dX7_placeInWay_16 : decode cX7_placeInWay 16 = .ok (.getfield 56, 3) := by decide +kernel
theorem dX7_placeInWay_19 : decode cX7_placeInWay 19 = .ok (.iload_n 2, 1) := by decide +kernel
theorem dX7_placeInWay_20 : decode cX7_placeInWay 20 = .ok (.invokevirtual 118, 3) := by decide +kernel
theorem dX7_placeInWay_23 : decode cX7_placeInWay 23 = .ok (.ireturn, 1) := by decide +kernel
theorem dX7_carryIn_0 : decode cX7_carryIn 0 = .ok (.aload_n 0, 1) := by decide +kernel
theorem dX7_carryIn_1 : decode cX7_carryIn 1 = .ok (.getfield 62, 3) := by decide +kernel
theorem dX7_carryIn_4 : decode cX7_carryIn 4 = .ok (.iload_n 2, 1) := by decide +kernel
theorem dX7_carryIn_5 : decode cX7_carryIn 5 = .ok (.iload_n 3, 1) := by decide +kernel
theorem dX7_carryIn_6 : decode cX7_carryIn 6 = .ok (.aload_n 1, 1) := by decide +kernel
theorem dX7_carryIn_7 : decode cX7_carryIn 7 = .ok (.invokevirtual 291, 3) := by decide +kernel
theorem dX7_carryIn_10 : decode cX7_carryIn 10 = .ok (.istore 4, 2) := by decide +kernel
theorem dX7_carryIn_12 : decode cX7_carryIn 12 = .ok (.aload_n 1, 1) := by decide +kernel
theorem dX7_carryIn_13 : decode cX7_carryIn 13 = .ok (.iload_n 2, 1) := by decide +kernel
theorem dX7_carryIn_14 : decode cX7_carryIn 14 = .ok (.iload_n 3, 1) := by decide +kernel
theorem dX7_carryIn_15 : decode cX7_carryIn 15 = .ok (.iload 4, 2) := by decide +kernel
theorem dX7_carryIn_17 : decode cX7_carryIn 17 = .ok (.invokestatic 217, 3) := by decide +kernel
theorem dX7_carryIn_20 : decode cX7_carryIn 20 = .ok (.invokevirtual 295, 3) := by decide +kernel
theorem dX7_carryIn_23 : decode cX7_carryIn 23 = .ok (.iload 4, 2) := by decide +kernel
theorem dX7_carryIn_25 : decode cX7_carryIn 25 = .ok (.ireturn, 1) := by decide +kernel
theorem dX7_tryDraw_0 : decode cX7_tryDraw 0 = .ok (.aload_n 0, 1) := by decide +kernel
theorem dX7_tryDraw_1 : decode cX7_tryDraw 1 = .ok (.getfield 62, 3) := by decide +kernel
theorem dX7_tryDraw_4 : decode cX7_tryDraw 4 = .ok (.invokevirtual 99, 3) := by decide +kernel
theorem dX7_tryDraw_7 : decode cX7_tryDraw 7 = .ok (.iconst 1, 1) := by decide +kernel
theorem dX7_tryDraw_8 : decode cX7_tryDraw 8 = .ok (.if_icmp .lt 14, 3) := by decide +kernel
theorem dX7_tryDraw_11 : decode cX7_tryDraw 11 = .ok (.aload_n 0, 1) := by decide +kernel
theorem dX7_tryDraw_12 : decode cX7_tryDraw 12 = .ok (.getfield 62, 3) := by decide +kernel
theorem dX7_tryDraw_15 : decode cX7_tryDraw 15 = .ok (.invokevirtual 225, 3) := by decide +kernel
theorem dX7_tryDraw_18 : decode cX7_tryDraw 18 = .ok (.iconst 1, 1) := by decide +kernel
theorem dX7_tryDraw_19 : decode cX7_tryDraw 19 = .ok (.if_icmp .ge 4, 3) := by decide +kernel
theorem dX7_tryDraw_22 : decode cX7_tryDraw 22 = .ok (.return_, 1) := by decide +kernel
theorem dX7_tryDraw_23 : decode cX7_tryDraw 23 = .ok (.iload_n 1, 1) := by decide +kernel
theorem dX7_tryDraw_24 : decode cX7_tryDraw 24 = .ok (.aload_n 0, 1) := by decide +kernel
theorem dX7_tryDraw_25 : decode cX7_tryDraw 25 = .ok (.getfield 62, 3) := by decide +kernel
theorem dX7_tryDraw_28 : decode cX7_tryDraw 28 = .ok (.invokevirtual 99, 3) := by decide +kernel
theorem dX7_tryDraw_31 : decode cX7_tryDraw 31 = .ok (.irem, 1) := by decide +kernel
theorem dX7_tryDraw_32 : decode cX7_tryDraw 32 = .ok (.istore_n 2, 1) := by decide +kernel
theorem dX7_tryDraw_33 : decode cX7_tryDraw 33 = .ok (.iload_n 1, 1) := by decide +kernel
theorem dX7_tryDraw_34 : decode cX7_tryDraw 34 = .ok (.bipush 8, 2) := by decide +kernel
theorem dX7_tryDraw_36 : decode cX7_tryDraw 36 = .ok (.idiv, 1) := by decide +kernel
theorem dX7_tryDraw_37 : decode cX7_tryDraw 37 = .ok (.aload_n 0, 1) := by decide +kernel
theorem dX7_tryDraw_38 : decode cX7_tryDraw 38 = .ok (.getfield 62, 3) := by decide +kernel
theorem dX7_tryDraw_41 : decode cX7_tryDraw 41 = .ok (.invokevirtual 225, 3) := by decide +kernel
theorem dX7_tryDraw_44 : decode cX7_tryDraw 44 = .ok (.irem, 1) := by decide +kernel
theorem dX7_tryDraw_45 : decode cX7_tryDraw 45 = .ok (.istore_n 3, 1) := by decide +kernel
theorem dX7_tryDraw_46 : decode cX7_tryDraw 46 = .ok (.aload_n 0, 1) := by decide +kernel
theorem dX7_tryDraw_47 : decode cX7_tryDraw 47 = .ok (.getfield 56, 3) := by decide +kernel
theorem dX7_tryDraw_50 : decode cX7_tryDraw 50 = .ok (.iload_n 3, 1) := by decide +kernel
theorem dX7_tryDraw_51 : decode cX7_tryDraw 51 = .ok (.aload_n 0, 1) := by decide +kernel
theorem dX7_tryDraw_52 : decode cX7_tryDraw 52 = .ok (.getfield 62, 3) := by decide +kernel
theorem dX7_tryDraw_55 : decode cX7_tryDraw 55 = .ok (.invokevirtual 99, 3) := by decide +kernel
theorem dX7_tryDraw_58 : decode cX7_tryDraw 58 = .ok (.invokevirtual 149, 3) := by decide +kernel
theorem dX7_tryDraw_61 : decode cX7_tryDraw 61 = .ok (.ifCond .eq 14, 3) := by decide +kernel
theorem dX7_tryDraw_64 : decode cX7_tryDraw 64 = .ok (.aload_n 0, 1) := by decide +kernel
theorem dX7_tryDraw_65 : decode cX7_tryDraw 65 = .ok (.aload_n 0, 1) := by decide +kernel
theorem dX7_tryDraw_66 : decode cX7_tryDraw 66 = .ok (.getfield 56, 3) := by decide +kernel
theorem dX7_tryDraw_69 : decode cX7_tryDraw 69 = .ok (.iload_n 2, 1) := by decide +kernel
theorem dX7_tryDraw_70 : decode cX7_tryDraw 70 = .ok (.iload_n 3, 1) := by decide +kernel
theorem dX7_tryDraw_71 : decode cX7_tryDraw 71 = .ok (.invokevirtual 157, 3) := by decide +kernel
theorem dX7_tryDraw_74 : decode cX7_tryDraw 74 = .ok (.pop, 1) := by decide +kernel
theorem dX7_tryDraw_75 : decode cX7_tryDraw 75 = .ok (.return_, 1) := by decide +kernel
theorem dX7_drawOf_0 : decode cX7_drawOf 0 = .ok (.ldc2_w 299, 3) := by decide +kernel
theorem dX7_drawOf_3 : decode cX7_drawOf 3 = .ok (.iload_n 0, 1) := by decide +kernel
theorem dX7_drawOf_4 : decode cX7_drawOf 4 = .ok (.i2l, 1) := by decide +kernel
theorem dX7_drawOf_5 : decode cX7_drawOf 5 = .ok (.lmul, 1) := by decide +kernel
theorem dX7_drawOf_6 : decode cX7_drawOf 6 = .ok (.ldc2_w 301, 3) := by decide +kernel
theorem dX7_drawOf_9 : decode cX7_drawOf 9 = .ok (.iload_n 1, 1) := by decide +kernel
theorem dX7_drawOf_10 : decode cX7_drawOf 10 = .ok (.i2l, 1) := by decide +kernel
theorem dX7_drawOf_11 : decode cX7_drawOf 11 = .ok (.lmul, 1) := by decide +kernel
theorem dX7_drawOf_12 : decode cX7_drawOf 12 = .ok (.ladd, 1) := by decide +kernel
theorem dX7_drawOf_13 : decode cX7_drawOf 13 = .ok (.lconst 1, 1) := by decide +kernel
theorem dX7_drawOf_14 : decode cX7_drawOf 14 = .ok (.ladd, 1) := by decide +kernel
theorem dX7_drawOf_15 : decode cX7_drawOf 15 = .ok (.lstore_n 2, 1) := by decide +kernel
theorem dX7_drawOf_16 : decode cX7_drawOf 16 = .ok (.lload_n 2, 1) := by decide +kernel
theorem dX7_drawOf_17 : decode cX7_drawOf 17 = .ok (.lload_n 2, 1) := by decide +kernel
theorem dX7_drawOf_18 : decode cX7_drawOf 18 = .ok (.lmul, 1) := by decide +kernel
theorem dX7_drawOf_19 : decode cX7_drawOf 19 = .ok (.ldc2_w 303, 3) := by decide +kernel
theorem dX7_drawOf_22 : decode cX7_drawOf 22 = .ok (.lrem, 1) := by decide +kernel
theorem dX7_drawOf_23 : decode cX7_drawOf 23 = .ok (.ldc2_w 305, 3) := by decide +kernel
theorem dX7_drawOf_26 : decode cX7_drawOf 26 = .ok (.ldiv, 1) := by decide +kernel
theorem dX7_drawOf_27 : decode cX7_drawOf 27 = .ok (.l2i, 1) := by decide +kernel
theorem dX7_drawOf_28 : decode cX7_drawOf 28 = .ok (.ireturn, 1) := by decide +kernel
theorem dX7_quietHundredths_0 : decode cX7_quietHundredths 0 = .ok (.aload_n 0, 1) := by decide +kernel
theorem dX7_quietHundredths_1 : decode cX7_quietHundredths 1 = .ok (.aload_n 0, 1) := by decide +kernel
theorem dX7_quietHundredths_2 : decode cX7_quietHundredths 2 = .ok (.getfield 52, 3) := by decide +kernel
theorem dX7_quietHundredths_5 : decode cX7_quietHundredths 5 = .ok (.iload_n 1, 1) := by decide +kernel
theorem dX7_quietHundredths_6 : decode cX7_quietHundredths 6 = .ok (.invokevirtual 118, 3) := by decide +kernel
theorem dX7_quietHundredths_9 : decode cX7_quietHundredths 9 = .ok (.iconst 1, 1) := by decide +kernel
theorem dX7_quietHundredths_10 : decode cX7_quietHundredths 10 = .ok (.isub, 1) := by decide +kernel
theorem dX7_quietHundredths_11 : decode cX7_quietHundredths 11 = .ok (.iload_n 1, 1) := by decide +kernel
theorem dX7_quietHundredths_12 : decode cX7_quietHundredths 12 = .ok (.invokevirtual 307, 3) := by decide +kernel
theorem dX7_quietHundredths_15 : decode cX7_quietHundredths 15 = .ok (.istore_n 3, 1) := by decide +kernel
theorem dX7_quietHundredths_16 : decode cX7_quietHundredths 16 = .ok (.aload_n 0, 1) := by decide +kernel
theorem dX7_quietHundredths_17 : decode cX7_quietHundredths 17 = .ok (.aload_n 0, 1) := by decide +kernel
theorem dX7_quietHundredths_18 : decode cX7_quietHundredths 18 = .ok (.getfield 52, 3) := by decide +kernel
theorem dX7_quietHundredths_21 : decode cX7_quietHundredths 21 = .ok (.iload_n 1, 1) := by decide +kernel
theorem dX7_quietHundredths_22 : decode cX7_quietHundredths 22 = .ok (.invokevirtual 118, 3) := by decide +kernel
theorem dX7_quietHundredths_25 : decode cX7_quietHundredths 25 = .ok (.iconst 1, 1) := by decide +kernel
theorem dX7_quietHundredths_26 : decode cX7_quietHundredths 26 = .ok (.iadd, 1) := by decide +kernel
theorem dX7_quietHundredths_27 : decode cX7_quietHundredths 27 = .ok (.iload_n 1, 1) := by decide +kernel
theorem dX7_quietHundredths_28 : decode cX7_quietHundredths 28 = .ok (.invokevirtual 307, 3) := by decide +kernel
theorem dX7_quietHundredths_31 : decode cX7_quietHundredths 31 = .ok (.istore 4, 2) := by decide +kernel
theorem dX7_quietHundredths_33 : decode cX7_quietHundredths 33 = .ok (.aload_n 0, 1) := by decide +kernel
theorem dX7_quietHundredths_34 : decode cX7_quietHundredths 34 = .ok (.getfield 62, 3) := by decide +kernel
theorem dX7_quietHundredths_37 : decode cX7_quietHundredths 37 = .ok (.iload_n 1, 1) := by decide +kernel
theorem dX7_quietHundredths_38 : decode cX7_quietHundredths 38 = .ok (.invokevirtual 115, 3) := by decide +kernel
theorem dX7_quietHundredths_41 : decode cX7_quietHundredths 41 = .ok (.istore 5, 2) := by decide +kernel
theorem dX7_quietHundredths_43 : decode cX7_quietHundredths 43 = .ok (.bipush 10, 2) := by decide +kernel
theorem dX7_quietHundredths_45 : decode cX7_quietHundredths 45 = .ok (.iload_n 2, 1) := by decide +kernel
theorem dX7_quietHundredths_46 : decode cX7_quietHundredths 46 = .ok (.isub, 1) := by decide +kernel
theorem dX7_quietHundredths_47 : decode cX7_quietHundredths 47 = .ok (.bipush 10, 2) := by decide +kernel
theorem dX7_quietHundredths_49 : decode cX7_quietHundredths 49 = .ok (.iload_n 2, 1) := by decide +kernel
theorem dX7_quietHundredths_50 : decode cX7_quietHundredths 50 = .ok (.isub, 1) := by decide +kernel
theorem dX7_quietHundredths_51 : decode cX7_quietHundredths 51 = .ok (.imul, 1) := by decide +kernel
theorem dX7_quietHundredths_52 : decode cX7_quietHundredths 52 = .ok (.istore 6, 2) := by decide +kernel
theorem dX7_quietHundredths_54 : decode cX7_quietHundredths 54 = .ok (.iload_n 3, 1) := by decide +kernel
theorem dX7_quietHundredths_55 : decode cX7_quietHundredths 55 = .ok (.iload 5, 2) := by decide +kernel
theorem dX7_quietHundredths_57 : decode cX7_quietHundredths 57 = .ok (.if_icmp .ge 14, 3) := by decide +kernel
theorem dX7_quietHundredths_60 : decode cX7_quietHundredths 60 = .ok (.iload 6, 2) := by decide +kernel
theorem dX7_quietHundredths_62 : decode cX7_quietHundredths 62 = .ok (.iload_n 2, 1) := by decide +kernel
theorem dX7_quietHundredths_63 : decode cX7_quietHundredths 63 = .ok (.bipush 10, 2) := by decide +kernel
theorem dX7_quietHundredths_65 : decode cX7_quietHundredths 65 = .ok (.iload_n 2, 1) := by decide +kernel
theorem dX7_quietHundredths_66 : decode cX7_quietHundredths 66 = .ok (.isub, 1) := by decide +kernel
theorem dX7_quietHundredths_67 : decode cX7_quietHundredths 67 = .ok (.imul, 1) := by decide +kernel
theorem dX7_quietHundredths_68 : decode cX7_quietHundredths 68 = .ok (.iadd, 1) := by decide +kernel
theorem dX7_quietHundredths_69 : decode cX7_quietHundredths 69 = .ok (.istore 6, 2) := by decide +kernel
theorem dX7_quietHundredths_71 : decode cX7_quietHundredths 71 = .ok (.iload 4, 2) := by decide +kernel
theorem dX7_quietHundredths_73 : decode cX7_quietHundredths 73 = .ok (.iload 5, 2) := by decide +kernel
theorem dX7_quietHundredths_75 : decode cX7_quietHundredths 75 = .ok (.if_icmp .ge 14, 3) := by decide +kernel
theorem dX7_quietHundredths_78 : decode cX7_quietHundredths 78 = .ok (.iload 6, 2) := by decide +kernel
theorem dX7_quietHundredths_80 : decode cX7_quietHundredths 80 = .ok (.bipush 10, 2) := by decide +kernel
theorem dX7_quietHundredths_82 : decode cX7_quietHundredths 82 = .ok (.iload_n 2, 1) := by decide +kernel
theorem dX7_quietHundredths_83 : decode cX7_quietHundredths 83 = .ok (.isub, 1) := by decide +kernel
theorem dX7_quietHundredths_84 : decode cX7_quietHundredths 84 = .ok (.iload_n 2, 1) := by decide +kernel
theorem dX7_quietHundredths_85 : decode cX7_quietHundredths 85 = .ok (.imul, 1) := by decide +kernel
theorem dX7_quietHundredths_86 : decode cX7_quietHundredths 86 = .ok (.iadd, 1) := by decide +kernel
theorem dX7_quietHundredths_87 : decode cX7_quietHundredths 87 = .ok (.istore 6, 2) := by decide +kernel
theorem dX7_quietHundredths_89 : decode cX7_quietHundredths 89 = .ok (.iload_n 3, 1) := by decide +kernel
theorem dX7_quietHundredths_90 : decode cX7_quietHundredths 90 = .ok (.iload 4, 2) := by decide +kernel
theorem dX7_quietHundredths_92 : decode cX7_quietHundredths 92 = .ok (.iadd, 1) := by decide +kernel
theorem dX7_quietHundredths_93 : decode cX7_quietHundredths 93 = .ok (.iload 5, 2) := by decide +kernel
theorem dX7_quietHundredths_95 : decode cX7_quietHundredths 95 = .ok (.if_icmp .ge 11, 3) := by decide +kernel
theorem dX7_quietHundredths_98 : decode cX7_quietHundredths 98 = .ok (.iload 6, 2) := by decide +kernel
theorem dX7_quietHundredths_100 : decode cX7_quietHundredths 100 = .ok (.iload_n 2, 1) := by decide +kernel
theorem dX7_quietHundredths_101 : decode cX7_quietHundredths 101 = .ok (.iload_n 2, 1) := by decide +kernel
theorem dX7_quietHundredths_102 : decode cX7_quietHundredths 102 = .ok (.imul, 1) := by decide +kernel
theorem dX7_quietHundredths_103 : decode cX7_quietHundredths 103 = .ok (.iadd, 1) := by decide +kernel
theorem dX7_quietHundredths_104 : decode cX7_quietHundredths 104 = .ok (.istore 6, 2) := by decide +kernel
theorem dX7_quietHundredths_106 : decode cX7_quietHundredths 106 = .ok (.iload 6, 2) := by decide +kernel
theorem dX7_quietHundredths_108 : decode cX7_quietHundredths 108 = .ok (.ireturn, 1) := by decide +kernel
theorem dX7_soundFromBed_0 : decode cX7_soundFromBed 0 = .ok (.aload_n 0, 1) := by decide +kernel
theorem dX7_soundFromBed_1 : decode cX7_soundFromBed 1 = .ok (.getfield 62, 3) := by decide +kernel
theorem dX7_soundFromBed_4 : decode cX7_soundFromBed 4 = .ok (.iload_n 1, 1) := by decide +kernel
theorem dX7_soundFromBed_5 : decode cX7_soundFromBed 5 = .ok (.invokevirtual 137, 3) := by decide +kernel
theorem dX7_soundFromBed_8 : decode cX7_soundFromBed 8 = .ok (.ifCond .eq 21, 3) := by decide +kernel
theorem dX7_soundFromBed_11 : decode cX7_soundFromBed 11 = .ok (.aload_n 0, 1) := by decide +kernel
theorem dX7_soundFromBed_12 : decode cX7_soundFromBed 12 = .ok (.getfield 52, 3) := by decide +kernel
theorem dX7_soundFromBed_15 : decode cX7_soundFromBed 15 = .ok (.iload_n 1, 1) := by decide +kernel
theorem dX7_soundFromBed_16 : decode cX7_soundFromBed 16 = .ok (.aload_n 0, 1) := by decide +kernel
theorem dX7_soundFromBed_17 : decode cX7_soundFromBed 17 = .ok (.getfield 62, 3) := by decide +kernel
theorem dX7_soundFromBed_20 : decode cX7_soundFromBed 20 = .ok (.invokevirtual 99, 3) := by decide +kernel
theorem dX7_soundFromBed_23 : decode cX7_soundFromBed 23 = .ok (.invokevirtual 140, 3) := by decide +kernel
theorem dX7_soundFromBed_26 : decode cX7_soundFromBed 26 = .ok (.goto 5, 3) := by decide +kernel
theorem dX7_soundFromBed_29 : decode cX7_soundFromBed 29 = .ok (.bipush (-4), 2) := by decide +kernel
theorem dX7_soundFromBed_31 : decode cX7_soundFromBed 31 = .ok (.istore_n 3, 1) := by decide +kernel
theorem dX7_soundFromBed_32 : decode cX7_soundFromBed 32 = .ok (.aload_n 0, 1) := by decide +kernel
theorem dX7_soundFromBed_33 : decode cX7_soundFromBed 33 = .ok (.getfield 62, 3) := by decide +kernel
theorem dX7_soundFromBed_36 : decode cX7_soundFromBed 36 = .ok (.iload_n 3, 1) := by decide +kernel
theorem dX7_soundFromBed_37 : decode cX7_soundFromBed 37 = .ok (.invokevirtual 102, 3) := by decide +kernel
theorem dX7_soundFromBed_40 : decode cX7_soundFromBed 40 = .ok (.ifCond .eq 26, 3) := by decide +kernel
theorem dX7_soundFromBed_43 : decode cX7_soundFromBed 43 = .ok (.aload_n 0, 1) := by decide +kernel
theorem dX7_soundFromBed_44 : decode cX7_soundFromBed 44 = .ok (.getfield 62, 3) := by decide +kernel
theorem dX7_soundFromBed_47 : decode cX7_soundFromBed 47 = .ok (.iload_n 3, 1) := by decide +kernel
theorem dX7_soundFromBed_48 : decode cX7_soundFromBed 48 = .ok (.iload_n 2, 1) := by decide +kernel
theorem dX7_soundFromBed_49 : decode cX7_soundFromBed 49 = .ok (.aload_n 0, 1) := by decide +kernel
theorem dX7_soundFromBed_50 : decode cX7_soundFromBed 50 = .ok (.getfield 52, 3) := by decide +kernel
theorem dX7_soundFromBed_53 : decode cX7_soundFromBed 53 = .ok (.aload_n 0, 1) := by decide +kernel
theorem dX7_soundFromBed_54 : decode cX7_soundFromBed 54 = .ok (.getfield 52, 3) := by decide +kernel
theorem dX7_soundFromBed_57 : decode cX7_soundFromBed 57 = .ok (.getfield 121, 3) := by decide +kernel
theorem dX7_soundFromBed_60 : decode cX7_soundFromBed 60 = .ok (.invokevirtual 310, 3) := by decide +kernel
theorem dX7_soundFromBed_63 : decode cX7_soundFromBed 63 = .ok (.goto 4, 3) := by decide +kernel
theorem dX7_soundFromBed_66 : decode cX7_soundFromBed 66 = .ok (.iconst 0, 1) := by decide +kernel
theorem dX7_soundFromBed_67 : decode cX7_soundFromBed 67 = .ok (.ireturn, 1) := by decide +kernel
theorem dX7_partInLowestTerms_0 : decode cX7_partInLowestTerms 0 = .ok (.iload_n 2, 1) := by decide +kernel
theorem dX7_partInLowestTerms_1 : decode cX7_partInLowestTerms 1 = .ok (.ifCond .ne 7, 3) := by decide +kernel
theorem dX7_partInLowestTerms_4 : decode cX7_partInLowestTerms 4 = .ok (.iload_n 0, 1) := by decide +kernel
theorem dX7_partInLowestTerms_5 : decode cX7_partInLowestTerms 5 = .ok (.goto 4, 3) := by decide +kernel
theorem dX7_partInLowestTerms_8 : decode cX7_partInLowestTerms 8 = .ok (.iload_n 1, 1) := by decide +kernel
theorem dX7_partInLowestTerms_9 : decode cX7_partInLowestTerms 9 = .ok (.istore_n 3, 1) := by decide +kernel
theorem dX7_partInLowestTerms_10 : decode cX7_partInLowestTerms 10 = .ok (.iload_n 1, 1) := by decide +kernel
theorem dX7_partInLowestTerms_11 : decode cX7_partInLowestTerms 11 = .ok (.istore 4, 2) := by decide +kernel
theorem dX7_partInLowestTerms_13 : decode cX7_partInLowestTerms 13 = .ok (.iload 4, 2) := by decide +kernel
theorem dX7_partInLowestTerms_15 : decode cX7_partInLowestTerms 15 = .ok (.iconst 1, 1) := by decide +kernel
theorem dX7_partInLowestTerms_16 : decode cX7_partInLowestTerms 16 = .ok (.if_icmp .le 28, 3) := by decide +kernel
theorem dX7_partInLowestTerms_19 : decode cX7_partInLowestTerms 19 = .ok (.iload_n 1, 1) := by decide +kernel
theorem dX7_partInLowestTerms_20 : decode cX7_partInLowestTerms 20 = .ok (.iload 4, 2) := by decide +kernel
theorem dX7_partInLowestTerms_22 : decode cX7_partInLowestTerms 22 = .ok (.irem, 1) := by decide +kernel
theorem dX7_partInLowestTerms_23 : decode cX7_partInLowestTerms 23 = .ok (.ifCond .ne 15, 3) := by decide +kernel
theorem dX7_partInLowestTerms_26 : decode cX7_partInLowestTerms 26 = .ok (.iload_n 0, 1) := by decide +kernel
theorem dX7_partInLowestTerms_27 : decode cX7_partInLowestTerms 27 = .ok (.iload 4, 2) := by decide +kernel
theorem dX7_partInLowestTerms_29 : decode cX7_partInLowestTerms 29 = .ok (.irem, 1) := by decide +kernel
theorem dX7_partInLowestTerms_30 : decode cX7_partInLowestTerms 30 = .ok (.ifCond .ne 8, 3) := by decide +kernel
theorem dX7_partInLowestTerms_33 : decode cX7_partInLowestTerms 33 = .ok (.iload_n 3, 1) := by decide +kernel
theorem dX7_partInLowestTerms_34 : decode cX7_partInLowestTerms 34 = .ok (.iload 4, 2) := by decide +kernel
theorem dX7_partInLowestTerms_36 : decode cX7_partInLowestTerms 36 = .ok (.idiv, 1) := by decide +kernel
theorem dX7_partInLowestTerms_37 : decode cX7_partInLowestTerms 37 = .ok (.ireturn, 1) := by decide +kernel
theorem dX7_partInLowestTerms_38 : decode cX7_partInLowestTerms 38 = .ok (.iinc 4 (-1), 3) := by decide +kernel
theorem dX7_partInLowestTerms_41 : decode cX7_partInLowestTerms 41 = .ok (.goto (-28), 3) := by decide +kernel
theorem dX7_partInLowestTerms_44 : decode cX7_partInLowestTerms 44 = .ok (.iload_n 3, 1) := by decide +kernel
theorem dX7_partInLowestTerms_45 : decode cX7_partInLowestTerms 45 = .ok (.ireturn, 1) := by decide +kernel
