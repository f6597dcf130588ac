theorem dX8_ran_27 : decode cX8_ran 27 = .ok (.ireturn, 1) := by decide +kernel
theorem dX8_told_0 : decode cX8_told 0 = .ok (.aload_n 0, 1) := by decide +kernel
theorem dX8_told_1 : decode cX8_told 1 = .ok (.getfield 288, 3) := by decide +kernel
theorem dX8_told_4 : decode cX8_told 4 = .ok (.ifCond .eq 23, 3) := by decide +kernel
theorem dX8_told_7 : decode cX8_told 7 = .ok (.iload_n 1, 1) := by decide +kernel
theorem dX8_told_8 : decode cX8_told 8 = .ok (.ifCond .lt 19, 3) := by decide +kernel
theorem dX8_told_11 : decode cX8_told 11 = .ok (.iload_n 1, 1) := by decide +kernel
theorem dX8_told_12 : decode cX8_told 12 = .ok (.aload_n 0, 1) := by decide +kernel
theorem dX8_told_13 : decode cX8_told 13 = .ok (.getfield 82, 3) := by decide +kernel
theorem dX8_told_16 : decode cX8_told 16 = .ok (.iconst 5, 1) := by decide +kernel
theorem dX8_told_17 : decode cX8_told 17 = .ok (.iaload, 1) := by decide +kernel
theorem dX8_told_18 : decode cX8_told 18 = .ok (.if_icmp .ge 9, 3) := by decide +kernel
theorem dX8_told_21 : decode cX8_told 21 = .ok (.iload_n 1, 1) := by decide +kernel
theorem dX8_told_22 : decode cX8_told 22 = .ok (.bipush 40, 2) := by decide +kernel
theorem dX8_told_24 : decode cX8_told 24 = .ok (.if_icmp .lt 7, 3) := by decide +kernel
theorem dX8_told_27 : decode cX8_told 27 = .ok (.iconst 0, 1) := by decide +kernel
theorem dX8_told_28 : decode cX8_told 28 = .ok (.goto 9, 3) := by decide +kernel
theorem dX8_told_31 : decode cX8_told 31 = .ok (.aload_n 0, 1) := by decide +kernel
theorem dX8_told_32 : decode cX8_told 32 = .ok (.getfield 79, 3) := by decide +kernel
theorem dX8_told_35 : decode cX8_told 35 = .ok (.iload_n 1, 1) := by decide +kernel
theorem dX8_told_36 : decode cX8_told 36 = .ok (.iaload, 1) := by decide +kernel
theorem dX8_told_37 : decode cX8_told 37 = .ok (.ireturn, 1) := by decide +kernel
theorem dX8_left_0 : decode cX8_left 0 = .ok (.aload_n 0, 1) := by decide +kernel
theorem dX8_left_1 : decode cX8_left 1 = .ok (.getfield 288, 3) := by decide +kernel
theorem dX8_left_4 : decode cX8_left 4 = .ok (.ifCond .eq 13, 3) := by decide +kernel
theorem dX8_left_7 : decode cX8_left 7 = .ok (.iload_n 1, 1) := by decide +kernel
theorem dX8_left_8 : decode cX8_left 8 = .ok (.ifCond .lt 9, 3) := by decide +kernel
theorem dX8_left_11 : decode cX8_left 11 = .ok (.iload_n 1, 1) := by decide +kernel
theorem dX8_left_12 : decode cX8_left 12 = .ok (.bipush 40, 2) := by decide +kernel
theorem dX8_left_14 : decode cX8_left 14 = .ok (.if_icmp .lt 7, 3) := by decide +kernel
theorem dX8_left_17 : decode cX8_left 17 = .ok (.iconst 0, 1) := by decide +kernel
theorem dX8_left_18 : decode cX8_left 18 = .ok (.goto 9, 3) := by decide +kernel
theorem dX8_left_21 : decode cX8_left 21 = .ok (.aload_n 0, 1) := by decide +kernel
theorem dX8_left_22 : decode cX8_left 22 = .ok (.getfield 70, 3) := by decide +kernel
theorem dX8_left_25 : decode cX8_left 25 = .ok (.iload_n 1, 1) := by decide +kernel
theorem dX8_left_26 : decode cX8_left 26 = .ok (.iaload, 1) := by decide +kernel
theorem dX8_left_27 : decode cX8_left 27 = .ok (.ireturn, 1) := by decide +kernel
theorem dX8_leftOf_0 : decode cX8_leftOf 0 = .ok (.aload_n 0, 1) := by decide +kernel
theorem dX8_leftOf_1 : decode cX8_leftOf 1 = .ok (.getfield 288, 3) := by decide +kernel
theorem dX8_leftOf_4 : decode cX8_leftOf 4 = .ok (.ifCond .eq 17, 3) := by decide +kernel
theorem dX8_leftOf_7 : decode cX8_leftOf 7 = .ok (.iload_n 1, 1) := by decide +kernel
theorem dX8_leftOf_8 : decode cX8_leftOf 8 = .ok (.ifCond .lt 13, 3) := by decide +kernel
theorem dX8_leftOf_11 : decode cX8_leftOf 11 = .ok (.iload_n 1, 1) := by decide +kernel
theorem dX8_leftOf_12 : decode cX8_leftOf 12 = .ok (.bipush 40, 2) := by decide +kernel
theorem dX8_leftOf_14 : decode cX8_leftOf 14 = .ok (.if_icmp .ge 7, 3) := by decide +kernel
theorem dX8_leftOf_17 : decode cX8_leftOf 17 = .ok (.iconst 1, 1) := by decide +kernel
theorem dX8_leftOf_18 : decode cX8_leftOf 18 = .ok (.goto 4, 3) := by decide +kernel
theorem dX8_leftOf_21 : decode cX8_leftOf 21 = .ok (.iconst 0, 1) := by decide +kernel
theorem dX8_leftOf_22 : decode cX8_leftOf 22 = .ok (.istore_n 3, 1) := by decide +kernel
theorem dX8_leftOf_23 : decode cX8_leftOf 23 = .ok (.iload_n 2, 1) := by decide +kernel
theorem dX8_leftOf_24 : decode cX8_leftOf 24 = .ok (.ifCond .ne 20, 3) := by decide +kernel
theorem dX8_leftOf_27 : decode cX8_leftOf 27 = .ok (.iload_n 3, 1) := by decide +kernel
theorem dX8_leftOf_28 : decode cX8_leftOf 28 = .ok (.ifCond .eq 12, 3) := by decide +kernel
theorem dX8_leftOf_31 : decode cX8_leftOf 31 = .ok (.aload_n 0, 1) := by decide +kernel
theorem dX8_leftOf_32 : decode cX8_leftOf 32 = .ok (.getfield 73, 3) := by decide +kernel
theorem dX8_leftOf_35 : decode cX8_leftOf 35 = .ok (.iload_n 1, 1) := by decide +kernel
theorem dX8_leftOf_36 : decode cX8_leftOf 36 = .ok (.iaload, 1) := by decide +kernel
theorem dX8_leftOf_37 : decode cX8_leftOf 37 = .ok (.goto 30, 3) := by decide +kernel
theorem dX8_leftOf_40 : decode cX8_leftOf 40 = .ok (.iconst (-1), 1) := by decide +kernel
theorem dX8_leftOf_41 : decode cX8_leftOf 41 = .ok (.goto 26, 3) := by decide +kernel
theorem dX8_leftOf_44 : decode cX8_leftOf 44 = .ok (.iload_n 2, 1) := by decide +kernel
theorem dX8_leftOf_45 : decode cX8_leftOf 45 = .ok (.iconst 1, 1) := by decide +kernel
theorem dX8_leftOf_46 : decode cX8_leftOf 46 = .ok (.if_icmp .ne 20, 3) := by decide +kernel
theorem dX8_leftOf_49 : decode cX8_leftOf 49 = .ok (.iload_n 3, 1) := by decide +kernel
theorem dX8_leftOf_50 : decode cX8_leftOf 50 = .ok (.ifCond .eq 12, 3) := by decide +kernel
theorem dX8_leftOf_53 : decode cX8_leftOf 53 = .ok (.aload_n 0, 1) := by decide +kernel
theorem dX8_leftOf_54 : decode cX8_leftOf 54 = .ok (.getfield 76, 3) := by decide +kernel
theorem dX8_leftOf_57 : decode cX8_leftOf 57 = .ok (.iload_n 1, 1) := by decide +kernel
theorem dX8_leftOf_58 : decode cX8_leftOf 58 = .ok (.iaload, 1) := by decide +kernel
theorem dX8_leftOf_59 : decode cX8_leftOf 59 = .ok (.goto 8, 3) := by decide +kernel
theorem dX8_leftOf_62 : decode cX8_leftOf 62 = .ok (.iconst 0, 1) := by decide +kernel
theorem dX8_leftOf_63 : decode cX8_leftOf 63 = .ok (.goto 4, 3) := by decide +kernel
theorem dX8_leftOf_66 : decode cX8_leftOf 66 = .ok (.iconst (-1), 1) := by decide +kernel
theorem dX8_leftOf_67 : decode cX8_leftOf 67 = .ok (.ireturn, 1) := by decide +kernel
theorem dX8_isFall_0 : decode cX8_isFall 0 = .ok (.iload_n 0, 1) := by decide +kernel
theorem dX8_isFall_1 : decode cX8_isFall 1 = .ok (.ifCond .le 12, 3) := by decide +kernel
theorem dX8_isFall_4 : decode cX8_isFall 4 = .ok (.iload_n 0, 1) := by decide +kernel
theorem dX8_isFall_5 : decode cX8_isFall 5 = .ok (.iconst 4, 1) := by decide +kernel
theorem dX8_isFall_6 : decode cX8_isFall 6 = .ok (.if_icmp .ge 7, 3) := by decide +kernel
theorem dX8_isFall_9 : decode cX8_isFall 9 = .ok (.iconst 1, 1) := by decide +kernel
theorem dX8_isFall_10 : decode cX8_isFall 10 = .ok (.goto 4, 3) := by decide +kernel
theorem dX8_isFall_13 : decode cX8_isFall 13 = .ok (.iconst 0, 1) := by decide +kernel
theorem dX8_isFall_14 : decode cX8_isFall 14 = .ok (.ireturn, 1) := by decide +kernel
theorem dX8_lookAtHeaps_0 : decode cX8_lookAtHeaps 0 = .ok (.aload_n 0, 1) := by decide +kernel
theorem dX8_lookAtHeaps_1 : decode cX8_lookAtHeaps 1 = .ok (.iconst 0, 1) := by decide +kernel
theorem dX8_lookAtHeaps_2 : decode cX8_lookAtHeaps 2 = .ok (.putfield 292, 3) := by decide +kernel
theorem dX8_lookAtHeaps_5 : decode cX8_lookAtHeaps 5 = .ok (.iconst 0, 1) := by decide +kernel
theorem dX8_lookAtHeaps_6 : decode cX8_lookAtHeaps 6 = .ok (.istore_n 2, 1) := by decide +kernel
theorem dX8_lookAtHeaps_7 : decode cX8_lookAtHeaps 7 = .ok (.iload_n 2, 1) := by decide +kernel
theorem dX8_lookAtHeaps_8 : decode cX8_lookAtHeaps 8 = .ok (.aload_n 0, 1) := by decide +kernel
theorem dX8_lookAtHeaps_9 : decode cX8_lookAtHeaps 9 = .ok (.getfield 225, 3) := by decide +kernel
theorem dX8_lookAtHeaps_12 : decode cX8_lookAtHeaps 12 = .ok (.if_icmp .ge 181, 3) := by decide +kernel
theorem dX8_lookAtHeaps_15 : decode cX8_lookAtHeaps 15 = .ok (.aload_n 0, 1) := by decide +kernel
theorem dX8_lookAtHeaps_16 : decode cX8_lookAtHeaps 16 = .ok (.iload_n 2, 1) := by decide +kernel
theorem dX8_lookAtHeaps_17 : decode cX8_lookAtHeaps 17 = .ok (.invokevirtual 282, 3) := by decide +kernel
theorem dX8_lookAtHeaps_20 : decode cX8_lookAtHeaps 20 = .ok (.aload_n 0, 1) := by decide +kernel
theorem dX8_lookAtHeaps_21 : decode cX8_lookAtHeaps 21 = .ok (.iload_n 1, 1) := by decide +kernel
theorem dX8_lookAtHeaps_22 : decode cX8_lookAtHeaps 22 = .ok (.invokevirtual 285, 3) := by decide +kernel
theorem dX8_lookAtHeaps_25 : decode cX8_lookAtHeaps 25 = .ok (.aload_n 0, 1) := by decide +kernel
theorem dX8_lookAtHeaps_26 : decode cX8_lookAtHeaps 26 = .ok (.getfield 85, 3) := by decide +kernel
theorem dX8_lookAtHeaps_29 : decode cX8_lookAtHeaps 29 = .ok (.iload_n 2, 1) := by decide +kernel
theorem dX8_lookAtHeaps_30 : decode cX8_lookAtHeaps 30 = .ok (.aload_n 0, 1) := by decide +kernel
theorem dX8_lookAtHeaps_31 : decode cX8_lookAtHeaps 31 = .ok (.getfield 234, 3) := by decide +kernel
theorem dX8_lookAtHeaps_34 : decode cX8_lookAtHeaps 34 = .ok (.iastore, 1) := by decide +kernel
theorem dX8_lookAtHeaps_35 : decode cX8_lookAtHeaps 35 = .ok (.aload_n 0, 1) := by decide +kernel
theorem dX8_lookAtHeaps_36 : decode cX8_lookAtHeaps 36 = .ok (.getfield 88, 3) := by decide +kernel
theorem dX8_lookAtHeaps_39 : decode cX8_lookAtHeaps 39 = .ok (.iload_n 2, 1) := by decide +kernel
theorem dX8_lookAtHeaps_40 : decode cX8_lookAtHeaps 40 = .ok (.aload_n 0, 1) := by decide +kernel
theorem dX8_lookAtHeaps_41 : decode cX8_lookAtHeaps 41 = .ok (.getfield 237, 3) := by decide +kernel
theorem dX8_lookAtHeaps_44 : decode cX8_lookAtHeaps 44 = .ok (.iastore, 1) := by decide +kernel
theorem dX8_lookAtHeaps_45 : decode cX8_lookAtHeaps 45 = .ok (.aload_n 0, 1) := by decide +kernel
theorem dX8_lookAtHeaps_46 : decode cX8_lookAtHeaps 46 = .ok (.getfield 91, 3) := by decide +kernel
theorem dX8_lookAtHeaps_49 : decode cX8_lookAtHeaps 49 = .ok (.iload_n 2, 1) := by decide +kernel
theorem dX8_lookAtHeaps_50 : decode cX8_lookAtHeaps 50 = .ok (.aload_n 0, 1) := by decide +kernel
theorem dX8_lookAtHeaps_51 : decode cX8_lookAtHeaps 51 = .ok (.getfield 243, 3) := by decide +kernel
theorem dX8_lookAtHeaps_54 : decode cX8_lookAtHeaps 54 = .ok (.iastore, 1) := by decide +kernel
theorem dX8_lookAtHeaps_55 : decode cX8_lookAtHeaps 55 = .ok (.aload_n 0, 1) := by decide +kernel
theorem dX8_lookAtHeaps_56 : decode cX8_lookAtHeaps 56 = .ok (.getfield 94, 3) := by decide +kernel
theorem dX8_lookAtHeaps_59 : decode cX8_lookAtHeaps 59 = .ok (.iload_n 2, 1) := by decide +kernel
theorem dX8_lookAtHeaps_60 : decode cX8_lookAtHeaps 60 = .ok (.iconst (-1), 1) := by decide +kernel
theorem dX8_lookAtHeaps_61 : decode cX8_lookAtHeaps 61 = .ok (.iastore, 1) := by decide +kernel
theorem dX8_lookAtHeaps_62 : decode cX8_lookAtHeaps 62 = .ok (.aload_n 0, 1) := by decide +kernel
theorem dX8_lookAtHeaps_63 : decode cX8_lookAtHeaps 63 = .ok (.getfield 234, 3) := by decide +kernel
theorem dX8_lookAtHeaps_66 : decode cX8_lookAtHeaps 66 = .ok (.ifCond .ne 6, 3) := by decide +kernel
theorem dX8_lookAtHeaps_69 : decode cX8_lookAtHeaps 69 = .ok (.goto 118, 3) := by decide +kernel
theorem dX8_lookAtHeaps_72 : decode cX8_lookAtHeaps 72 = .ok (.iconst 0, 1) := by decide +kernel
theorem dX8_lookAtHeaps_73 : decode cX8_lookAtHeaps 73 = .ok (.istore_n 3, 1) := by decide +kernel
theorem dX8_lookAtHeaps_74 : decode cX8_lookAtHeaps 74 = .ok (.iload_n 3, 1) := by decide +kernel
theorem dX8_lookAtHeaps_75 : decode cX8_lookAtHeaps 75 = .ok (.iload_n 2, 1) := by decide +kernel
theorem dX8_lookAtHeaps_76 : decode cX8_lookAtHeaps 76 = .ok (.if_icmp .ge 69, 3) := by decide +kernel
theorem dX8_lookAtHeaps_79 : decode cX8_lookAtHeaps 79 = .ok (.aload_n 0, 1) := by decide +kernel
theorem dX8_lookAtHeaps_80 : decode cX8_lookAtHeaps 80 = .ok (.getfield 94, 3) := by decide +kernel
theorem dX8_lookAtHeaps_83 : decode cX8_lookAtHeaps 83 = .ok (.iload_n 2, 1) := by decide +kernel
theorem dX8_lookAtHeaps_84 : decode cX8_lookAtHeaps 84 = .ok (.iaload, 1) := by decide +kernel
theorem dX8_lookAtHeaps_85 : decode cX8_lookAtHeaps 85 = .ok (.ifCond .ge 60, 3) := by decide +kernel
theorem dX8_lookAtHeaps_88 : decode cX8_lookAtHeaps 88 = .ok (.aload_n 0, 1) := by decide +kernel
theorem dX8_lookAtHeaps_89 : decode cX8_lookAtHeaps 89 = .ok (.getfield 85, 3) := by decide +kernel
theorem dX8_lookAtHeaps_92 : decode cX8_lookAtHeaps 92 = .ok (.iload_n 3, 1) := by decide +kernel
theorem dX8_lookAtHeaps_93 : decode cX8_lookAtHeaps 93 = .ok (.iaload, 1) := by decide +kernel
theorem dX8_lookAtHeaps_94 : decode cX8_lookAtHeaps 94 = .ok (.aload_n 0, 1) := by decide +kernel
theorem dX8_lookAtHeaps_95 : decode cX8_lookAtHeaps 95 = .ok (.getfield 234, 3) := by decide +kernel
theorem dX8_lookAtHeaps_98 : decode cX8_lookAtHeaps 98 = .ok (.if_icmp .ne 41, 3) := by decide +kernel
theorem dX8_lookAtHeaps_101 : decode cX8_lookAtHeaps 101 = .ok (.aload_n 0, 1) := by decide +kernel
theorem dX8_lookAtHeaps_102 : decode cX8_lookAtHeaps 102 = .ok (.getfield 88, 3) := by decide +kernel
theorem dX8_lookAtHeaps_105 : decode cX8_lookAtHeaps 105 = .ok (.iload_n 3, 1) := by decide +kernel
theorem dX8_lookAtHeaps_106 : decode cX8_lookAtHeaps 106 = .ok (.iaload, 1) := by decide +kernel
theorem dX8_lookAtHeaps_107 : decode cX8_lookAtHeaps 107 = .ok (.aload_n 0, 1) := by decide +kernel
theorem dX8_lookAtHeaps_108 : decode cX8_lookAtHeaps 108 = .ok (.getfield 237, 3) := by decide +kernel
theorem dX8_lookAtHeaps_111 : decode cX8_lookAtHeaps 111 = .ok (.if_icmp .ne 28, 3) := by decide +kernel
theorem dX8_lookAtHeaps_114 : decode cX8_lookAtHeaps 114 = .ok (.aload_n 0, 1) := by decide +kernel
theorem dX8_lookAtHeaps_115 : decode cX8_lookAtHeaps 115 = .ok (.getfield 91, 3) := by decide +kernel
theorem dX8_lookAtHeaps_118 : decode cX8_lookAtHeaps 118 = .ok (.iload_n 3, 1) := by decide +kernel
theorem dX8_lookAtHeaps_119 : decode cX8_lookAtHeaps 119 = .ok (.iaload, 1) := by decide +kernel
theorem dX8_lookAtHeaps_120 : decode cX8_lookAtHeaps 120 = .ok (.aload_n 0, 1) := by decide +kernel
theorem dX8_lookAtHeaps_121 : decode cX8_lookAtHeaps 121 = .ok (.getfield 243, 3) := by decide +kernel
theorem dX8_lookAtHeaps_124 : decode cX8_lookAtHeaps 124 = .ok (.if_icmp .ne 15, 3) := by decide +kernel
theorem dX8_lookAtHeaps_127 : decode cX8_lookAtHeaps 127 = .ok (.aload_n 0, 1) := by decide +kernel
theorem dX8_lookAtHeaps_128 : decode cX8_lookAtHeaps 128 = .ok (.getfield 94, 3) := by decide +kernel
theorem dX8_lookAtHeaps_131 : decode cX8_lookAtHeaps 131 = .ok (.iload_n 2, 1) := by decide +kernel
theorem dX8_lookAtHeaps_132 : decode cX8_lookAtHeaps 132 = .ok (.aload_n 0, 1) := by decide +kernel
theorem dX8_lookAtHeaps_133 : decode cX8_lookAtHeaps 133 = .ok (.getfield 94, 3) := by decide +kernel
theorem dX8_lookAtHeaps_136 : decode cX8_lookAtHeaps 136 = .ok (.iload_n 3, 1) := by decide +kernel
theorem dX8_lookAtHeaps_137 : decode cX8_lookAtHeaps 137 = .ok (.iaload, 1) := by decide +kernel
theorem dX8_lookAtHeaps_138 : decode cX8_lookAtHeaps 138 = .ok (.iastore, 1) := by decide +kernel
theorem dX8_lookAtHeaps_139 : decode cX8_lookAtHeaps 139 = .ok (.iinc 3 1, 3) := by decide +kernel
theorem dX8_lookAtHeaps_142 : decode cX8_lookAtHeaps 142 = .ok (.goto (-68), 3) := by decide +kernel
theorem dX8_lookAtHeaps_145 : decode cX8_lookAtHeaps 145 = .ok (.aload_n 0, 1) := by decide +kernel
theorem dX8_lookAtHeaps_146 : decode cX8_lookAtHeaps 146 = .ok (.getfield 94, 3) := by decide +kernel
theorem dX8_lookAtHeaps_149 : decode cX8_lookAtHeaps 149 = .ok (.iload_n 2, 1) := by decide +kernel
theorem dX8_lookAtHeaps_150 : decode cX8_lookAtHeaps 150 = .ok (.iaload, 1) := by decide +kernel
theorem dX8_lookAtHeaps_151 : decode cX8_lookAtHeaps 151 = .ok (.ifCond .lt 6, 3) := by decide +kernel
theorem dX8_lookAtHeaps_154 : decode cX8_lookAtHeaps 154 = .ok (.goto 33, 3) := by decide +kernel
theorem dX8_lookAtHeaps_157 : decode cX8_lookAtHeaps 157 = .ok (.aload_n 0, 1) := by decide +kernel
theorem dX8_lookAtHeaps_158 : decode cX8_lookAtHeaps 158 = .ok (.getfield 94, 3) := by decide +kernel
theorem dX8_lookAtHeaps_161 : decode cX8_lookAtHeaps 161 = .ok (.iload_n 2, 1) := by decide +kernel
theorem dX8_lookAtHeaps_162 : decode cX8_lookAtHeaps 162 = .ok (.aload_n 0, 1) := by decide +kernel
theorem dX8_lookAtHeaps_163 : decode cX8_lookAtHeaps 163 = .ok (.getfield 292, 3) := by decide +kernel
theorem dX8_lookAtHeaps_166 : decode cX8_lookAtHeaps 166 = .ok (.iastore, 1) := by decide +kernel
theorem dX8_lookAtHeaps_167 : decode cX8_lookAtHeaps 167 = .ok (.aload_n 0, 1) := by decide +kernel
theorem dX8_lookAtHeaps_168 : decode cX8_lookAtHeaps 168 = .ok (.getfield 97, 3) := by decide +kernel
theorem dX8_lookAtHeaps_171 : decode cX8_lookAtHeaps 171 = .ok (.aload_n 0, 1) := by decide +kernel
theorem dX8_lookAtHeaps_172 : decode cX8_lookAtHeaps 172 = .ok (.getfield 292, 3) := by decide +kernel
theorem dX8_lookAtHeaps_175 : decode cX8_lookAtHeaps 175 = .ok (.iload_n 2, 1) := by decide +kernel
theorem dX8_lookAtHeaps_176 : decode cX8_lookAtHeaps 176 = .ok (.iastore, 1) := by decide +kernel
theorem dX8_lookAtHeaps_177 : decode cX8_lookAtHeaps 177 = .ok (.aload_n 0, 1) := by decide +kernel
theorem dX8_lookAtHeaps_178 : decode cX8_lookAtHeaps 178 = .ok (.dup, 1) := by decide +kernel
theorem dX8_lookAtHeaps_179 : decode cX8_lookAtHeaps 179 = .ok (.getfield 292, 3) := by decide +kernel
theorem dX8_lookAtHeaps_182 : decode cX8_lookAtHeaps 182 = .ok (.iconst 1, 1) := by decide +kernel
theorem dX8_lookAtHeaps_183 : decode cX8_lookAtHeaps 183 = .ok (.iadd, 1) := by decide +kernel
theorem dX8_lookAtHeaps_184 : decode cX8_lookAtHeaps 184 = .ok (.putfield 292, 3) := by decide +kernel
theorem dX8_lookAtHeaps_187 : decode cX8_lookAtHeaps 187 = .ok (.iinc 2 1, 3) := by decide +kernel
theorem dX8_lookAtHeaps_190 : decode cX8_lookAtHeaps 190 = .ok (.goto (-183), 3) := by decide +kernel
theorem dX8_lookAtHeaps_193 : decode cX8_lookAtHeaps 193 = .ok (.return_, 1) := by decide +kernel
theorem dX8_heaps_0 : decode cX8_heaps 0 = .ok (.iload_n 1, 1) := by decide +kernel
theorem dX8_heaps_1 : decode cX8_heaps 1 = .ok (.invokestatic 181, 3) := by decide +kernel
theorem dX8_heaps_4 : decode cX8_heaps 4 = .ok (.ifCond .ne 5, 3) := by decide +kernel
theorem dX8_heaps_7 : decode cX8_heaps 7 = .ok (.iconst (-1), 1) := by decide +kernel
theorem dX8_heaps_8 : decode cX8_heaps 8 = .ok (.ireturn, 1) := by decide +kernel
theorem dX8_heaps_9 : decode cX8_heaps 9 = .ok (.aload_n 0, 1) := by decide +kernel
theorem dX8_heaps_10 : decode cX8_heaps 10 = .ok (.iload_n 1, 1) := by decide +kernel
theorem dX8_heaps_11 : decode cX8_heaps 11 = .ok (.invokevirtual 295, 3) := by decide +kernel
theorem dX8_heaps_14 : decode cX8_heaps 14 = .ok (.aload_n 0, 1) := by decide +kernel
theorem dX8_heaps_15 : decode cX8_heaps 15 = .ok (.getfield 292, 3) := by decide +kernel
theorem dX8_heaps_18 : decode cX8_heaps 18 = .ok (.ireturn, 1) := by decide +kernel
theorem dX8_heap_0 : decode cX8_heap 0 = .ok (.iload_n 1, 1) := by decide +kernel
theorem dX8_heap_1 : decode cX8_heap 1 = .ok (.invokestatic 181, 3) := by decide +kernel
theorem dX8_heap_4 : decode cX8_heap 4 = .ok (.ifCond .ne 5, 3) := by decide +kernel
theorem dX8_heap_7 : decode cX8_heap 7 = .ok (.iconst (-1), 1) := by decide +kernel
theorem dX8_heap_8 : decode cX8_heap 8 = .ok (.ireturn, 1) := by decide +kernel
theorem dX8_heap_9 : decode cX8_heap 9 = .ok (.aload_n 0, 1) := by decide +kernel
theorem dX8_heap_10 : decode cX8_heap 10 = .ok (.iload_n 1, 1) := by decide +kernel
theorem dX8_heap_11 : decode cX8_heap 11 = .ok (.invokevirtual 295, 3) := by decide +kernel
theorem dX8_heap_14 : decode cX8_heap 14 = .ok (.iload_n 2, 1) := by decide +kernel
theorem dX8_heap_15 : decode cX8_heap 15 = .ok (.ifCond .lt 11, 3) := by decide +kernel
theorem dX8_heap_18 : decode cX8_heap 18 = .ok (.iload_n 2, 1) := by decide +kernel
theorem dX8_heap_19 : decode cX8_heap 19 = .ok (.aload_n 0, 1) := by decide +kernel
theorem dX8_heap_20 : decode cX8_heap 20 = .ok (.getfield 292, 3) := by decide +kernel
theorem dX8_heap_23 : decode cX8_heap 23 = .ok (.if_icmp .lt 5, 3) := by decide +kernel
theorem dX8_heap_26 : decode cX8_heap 26 = .ok (.iconst (-1), 1) := by decide +kernel
theorem dX8_heap_27 : decode cX8_heap 27 = .ok (.ireturn, 1) := by decide +kernel
theorem dX8_heap_28 : decode cX8_heap 28 = .ok (.iconst 0, 1) := by decide +kernel
theorem dX8_heap_29 : decode cX8_heap 29 = .ok (.istore 4, 2) := by decide +kernel
theorem dX8_heap_31 : decode cX8_heap 31 = .ok (.iconst 0, 1) := by decide +kernel
theorem dX8_heap_32 : decode cX8_heap 32 = .ok (.istore 5, 2) := by decide +kernel
theorem dX8_heap_34 : decode cX8_heap 34 = .ok (.iload 5, 2) := by decide +kernel
theorem dX8_heap_36 : decode cX8_heap 36 = .ok (.aload_n 0, 1) := by decide +kernel
theorem dX8_heap_37 : decode cX8_heap 37 = .ok (.getfield 225, 3) := by decide +kernel
theorem dX8_heap_40 : decode cX8_heap 40 = .ok (.if_icmp .ge 30, 3) := by decide +kernel
theorem dX8_heap_43 : decode cX8_heap 43 = .ok (.iload 4, 2) := by decide +kernel
theorem dX8_heap_45 : decode cX8_heap 45 = .ok (.aload_n 0, 1) := by decide +kernel
theorem dX8_heap_46 : decode cX8_heap 46 = .ok (.getfield 94, 3) := by decide +kernel
theorem dX8_heap_49 : decode cX8_heap 49 = .ok (.iload 5, 2) := by decide +kernel
theorem dX8_heap_51 : decode cX8_heap 51 = .ok (.iaload, 1) := by decide +kernel
theorem dX8_heap_52 : decode cX8_heap 52 = .ok (.iload_n 2, 1) := by decide +kernel
theorem dX8_heap_53 : decode cX8_heap 53 = .ok (.if_icmp .ne 7, 3) := by decide +kernel
theorem dX8_heap_56 : decode cX8_heap 56 = .ok (.iconst 1, 1) := by decide +kernel
theorem dX8_heap_57 : decode cX8_heap 57 = .ok (.goto 4, 3) := by decide +kernel
theorem dX8_heap_60 : decode cX8_heap 60 = .ok (.iconst 0, 1) := by decide +kernel
theorem dX8_heap_61 : decode cX8_heap 61 = .ok (.iadd, 1) := by decide +kernel
theorem dX8_heap_62 : decode cX8_heap 62 = .ok (.istore 4, 2) := by decide +kernel
theorem dX8_heap_64 : decode cX8_heap 64 = .ok (.iinc 5 1, 3) := by decide +kernel
theorem dX8_heap_67 : decode cX8_heap 67 = .ok (.goto (-33), 3) := by decide +kernel
theorem dX8_heap_70 : decode cX8_heap 70 = .ok (.iload_n 3, 1) := by decide +kernel
theorem dX8_heap_71 : decode cX8_heap 71 = .ok (.tableswitch 79 0 4 #[33, 40, 43, 55, 67], 33) := by decide +kernel
theorem dX8_heap_104 : decode cX8_heap 104 = .ok (.aload_n 0, 1) := by decide +kernel
theorem dX8_heap_105 : decode cX8_heap 105 = .ok (.getfield 97, 3) := by decide +kernel
theorem dX8_heap_108 : decode cX8_heap 108 = .ok (.iload_n 2, 1) := by decide +kernel
theorem dX8_heap_109 : decode cX8_heap 109 = .ok (.iaload, 1) := by decide +kernel
theorem dX8_heap_110 : decode cX8_heap 110 = .ok (.ireturn, 1) := by decide +kernel
theorem dX8_heap_111 : decode cX8_heap 111 = .ok (.iload 4, 2) := by decide +kernel
theorem dX8_heap_113 : decode cX8_heap 113 = .ok (.ireturn, 1) := by decide +kernel
theorem dX8_heap_114 : decode cX8_heap 114 = .ok (.aload_n 0, 1) := by decide +kernel
theorem dX8_heap_115 : decode cX8_heap 115 = .ok (.getfield 85, 3) := by decide +kernel
theorem dX8_heap_118 : decode cX8_heap 118 = .ok (.aload_n 0, 1) := by decide +kernel
theorem dX8_heap_119 : decode cX8_heap 119 = .ok (.getfield 97, 3) := by decide +kernel
theorem dX8_heap_122 : decode cX8_heap 122 = .ok (.iload_n 2, 1) := by decide +kernel
theorem dX8_heap_123 : decode cX8_heap 123 = .ok (.iaload, 1) := by decide +kernel
theorem dX8_heap_124 : decode cX8_heap 124 = .ok (.iaload, 1) := by decide +kernel
theorem dX8_heap_125 : decode cX8_heap 125 = .ok (.ireturn, 1) := by decide +kernel
theorem dX8_heap_126 : decode cX8_heap 126 = .ok (.aload_n 0, 1) := by decide +kernel
theorem dX8_heap_127 : decode cX8_heap 127 = .ok (.getfield 88, 3) := by decide +kernel
theorem dX8_heap_130 : decode cX8_heap 130 = .ok (.aload_n 0, 1) := by decide +kernel
theorem dX8_heap_131 : decode cX8_heap 131 = .ok (.getfield 97, 3) := by decide +kernel
theorem dX8_heap_134 : decode cX8_heap 134 = .ok (.iload_n 2, 1) := by decide +kernel
theorem dX8_heap_135 : decode cX8_heap 135 = .ok (.iaload, 1) := by decide +kernel
theorem dX8_heap_136 : decode cX8_heap 136 = .ok (.iaload, 1) := by decide +kernel
theorem dX8_heap_137 : decode cX8_heap 137 = .ok (.ireturn, 1) := by decide +kernel
theorem dX8_heap_138 : decode cX8_heap 138 = .ok (.aload_n 0, 1) := by decide +kernel
theorem dX8_heap_139 : decode cX8_heap 139 = .ok (.getfield 91, 3) := by decide +kernel
theorem dX8_heap_142 : decode cX8_heap 142 = .ok (.aload_n 0, 1) := by decide +kernel
theorem dX8_heap_143 : decode cX8_heap 143 = .ok (.getfield 97, 3) := by decide +kernel
theorem dX8_heap_146 : decode cX8_heap 146 = .ok (.iload_n 2, 1) := by decide +kernel
theorem dX8_heap_147 : decode cX8_heap 147 = .ok (.iaload, 1) := by decide +kernel
theorem dX8_heap_148 : decode cX8_heap 148 = .ok (.iaload, 1) := by decide +kernel
theorem dX8_heap_149 : decode cX8_heap 149 = .ok (.ireturn, 1) := by decide +kernel
theorem dX8_heap_150 : decode cX8_heap 150 = .ok (.iconst (-1), 1) := by decide +kernel
theorem dX8_heap_151 : decode cX8_heap 151 = .ok (.ireturn, 1) := by decide +kernel
theorem dX8_heapOf_0 : decode cX8_heapOf 0 = .ok (.iload_n 1, 1) := by decide +kernel
theorem dX8_heapOf_1 : decode cX8_heapOf 1 = .ok (.invokestatic 181, 3) := by decide +kernel
theorem dX8_heapOf_4 : decode cX8_heapOf 4 = .ok (.ifCond .eq 11, 3) := by decide +kernel
theorem dX8_heapOf_7 : decode cX8_heapOf 7 = .ok (.aload_n 0, 1) := by decide +kernel
theorem dX8_heapOf_8 : decode cX8_heapOf 8 = .ok (.iload_n 2, 1) := by decide +kernel
theorem dX8_heapOf_9 : decode cX8_heapOf 9 = .ok (.invokevirtual 228, 3) := by decide +kernel
theorem dX8_heapOf_12 : decode cX8_heapOf 12 = .ok (.ifCond .ne 5, 3) := by decide +kernel
theorem dX8_heapOf_15 : decode cX8_heapOf 15 = .ok (.iconst (-1), 1) := by decide +kernel
theorem dX8_heapOf_16 : decode cX8_heapOf 16 = .ok (.ireturn, 1) := by decide +kernel
theorem dX8_heapOf_17 : decode cX8_heapOf 17 = .ok (.aload_n 0, 1) := by decide +kernel
theorem dX8_heapOf_18 : decode cX8_heapOf 18 = .ok (.iload_n 1, 1) := by decide +kernel
theorem dX8_heapOf_19 : decode cX8_heapOf 19 = .ok (.invokevirtual 295, 3) := by decide +kernel
theorem dX8_heapOf_22 : decode cX8_heapOf 22 = .ok (.aload_n 0, 1) := by decide +kernel
theorem dX8_heapOf_23 : decode cX8_heapOf 23 = .ok (.getfield 94, 3) := by decide +kernel
theorem dX8_heapOf_26 : decode cX8_heapOf 26 = .ok (.iload_n 2, 1) := by decide +kernel
theorem dX8_heapOf_27 : decode cX8_heapOf 27 = .ok (.iaload, 1) := by decide +kernel
theorem dX8_heapOf_28 : decode cX8_heapOf 28 = .ok (.ireturn, 1) := by decide +kernel
theorem dX8_want_0 : decode cX8_want 0 = .ok (.aload_n 0, 1) := by decide +kernel
theorem dX8_want_1 : decode cX8_want 1 = .ok (.aload_n 0, 1) := by decide +kernel
theorem dX8_want_2 : decode cX8_want 2 = .ok (.getfield 234, 3) := by decide +kernel
theorem dX8_want_5 : decode cX8_want 5 = .ok (.putfield 298, 3) := by decide +kernel
theorem dX8_want_8 : decode cX8_want 8 = .ok (.aload_n 0, 1) := by decide +kernel
theorem dX8_want_9 : decode cX8_want 9 = .ok (.aload_n 0, 1) := by decide +kernel
theorem dX8_want_10 : decode cX8_want 10 = .ok (.getfield 237, 3) := by decide +kernel
theorem dX8_want_13 : decode cX8_want 13 = .ok (.putfield 301, 3) := by decide +kernel
theorem dX8_want_16 : decode cX8_want 16 = .ok (.aload_n 0, 1) := by decide +kernel
theorem dX8_want_17 : decode cX8_want 17 = .ok (.aload_n 0, 1) := by decide +kernel
theorem dX8_want_18 : decode cX8_want 18 = .ok (.getfield 243, 3) := by decide +kernel
theorem dX8_want_21 : decode cX8_want 21 = .ok (.putfield 304, 3) := by decide +kernel
theorem dX8_want_24 : decode cX8_want 24 = .ok (.return_, 1) := by decide +kernel
theorem dX8_isWanted_0 : decode cX8_isWanted 0 = .ok (.aload_n 0, 1) := by decide +kernel
theorem dX8_isWanted_1 : decode cX8_isWanted 1 = .ok (.iload_n 1, 1) := by decide +kernel
theorem dX8_isWanted_2 : decode cX8_isWanted 2 = .ok (.invokevirtual 285, 3) := by decide +kernel
theorem dX8_isWanted_5 : decode cX8_isWanted 5 = .ok (.aload_n 0, 1) := by decide +kernel
theorem dX8_isWanted_6 : decode cX8_isWanted 6 = .ok (.getfield 234, 3) := by decide +kernel
theorem dX8_isWanted_9 : decode cX8_isWanted 9 = .ok (.aload_n 0, 1) := by decide +kernel
theorem dX8_isWanted_10 : decode cX8_isWanted 10 = .ok (.getfield 298, 3) := by decide +kernel
theorem dX8_isWanted_13 : decode cX8_isWanted 13 = .ok (.if_icmp .ne 29, 3) := by decide +kernel
theorem dX8_isWanted_16 : decode cX8_isWanted 16 = .ok (.aload_n 0, 1) := by decide +kernel
theorem dX8_isWanted_17 : decode cX8_isWanted 17 = .ok (.getfield 237, 3) := by decide +kernel
theorem dX8_isWanted_20 : decode cX8_isWanted 20 = .ok (.aload_n 0, 1) := by decide +kernel
theorem dX8_isWanted_21 : decode cX8_isWanted 21 = .ok (.getfield 301, 3) := by decide +kernel
theorem dX8_isWanted_24 : decode cX8_isWanted 24 = .ok (.if_icmp .ne 18, 3) := by decide +kernel
theorem dX8_isWanted_27 : decode cX8_isWanted 27 = .ok (.aload_n 0, 1) := by decide +kernel
theorem dX8_isWanted_28 : decode cX8_isWanted 28 = .ok (.getfield 243, 3) := by decide +kernel
theorem dX8_isWanted_31 : decode cX8_isWanted 31 = .ok (.aload_n 0, 1) := by decide +kernel
theorem dX8_isWanted_32 : decode cX8_isWanted 32 = .ok (.getfield 304, 3) := by decide +kernel
theorem dX8_isWanted_35 : decode cX8_isWanted 35 = .ok (.if_icmp .ne 7, 3) := by decide +kernel
theorem dX8_isWanted_38 : decode cX8_isWanted 38 = .ok (.iconst 1, 1) := by decide +kernel
theorem dX8_isWanted_39 : decode cX8_isWanted 39 = .ok (.goto 4, 3) := by decide +kernel
theorem dX8_isWanted_42 : decode cX8_isWanted 42 = .ok (.iconst 0, 1) := by decide +kernel
theorem dX8_isWanted_43 : decode cX8_isWanted 43 = .ok (.ireturn, 1) := by decide +kernel
theorem dX8_leavesOut_0 : decode cX8_leavesOut 0 = .ok (.aload_n 0, 1) := by decide +kernel
theorem dX8_leavesOut_1 : decode cX8_leavesOut 1 = .ok (.getfield 55, 3) := by decide +kernel
theorem dX8_leavesOut_4 : decode cX8_leavesOut 4 = .ok (.iload_n 2, 1) := by decide +kernel
theorem dX8_leavesOut_5 : decode cX8_leavesOut 5 = .ok (.iaload, 1) := by decide +kernel
theorem dX8_leavesOut_6 : decode cX8_leavesOut 6 = .ok (.istore_n 3, 1) := by decide +kernel
theorem dX8_leavesOut_7 : decode cX8_leavesOut 7 = .ok (.iload_n 2, 1) := by decide +kernel
theorem dX8_leavesOut_8 : decode cX8_leavesOut 8 = .ok (.istore 4, 2) := by decide +kernel
theorem dX8_leavesOut_10 : decode cX8_leavesOut 10 = .ok (.iload 4, 2) := by decide +kernel
theorem dX8_leavesOut_12 : decode cX8_leavesOut 12 = .ok (.iconst 1, 1) := by decide +kernel
theorem dX8_leavesOut_13 : decode cX8_leavesOut 13 = .ok (.iadd, 1) := by decide +kernel
theorem dX8_leavesOut_14 : decode cX8_leavesOut 14 = .ok (.aload_n 0, 1) := by decide +kernel
theorem dX8_leavesOut_15 : decode cX8_leavesOut 15 = .ok (.getfield 231, 3) := by decide +kernel
theorem dX8_leavesOut_18 : decode cX8_leavesOut 18 = .ok (.if_icmp .ge 25, 3) := by decide +kernel
theorem dX8_leavesOut_21 : decode cX8_leavesOut 21 = .ok (.aload_n 0, 1) := by decide +kernel
theorem dX8_leavesOut_22 : decode cX8_leavesOut 22 = .ok (.getfield 55, 3) := by decide +kernel
theorem dX8_leavesOut_25 : decode cX8_leavesOut 25 = .ok (.iload 4, 2) := by decide +kernel
theorem dX8_leavesOut_27 : decode cX8_leavesOut 27 = .ok (.aload_n 0, 1) := by decide +kernel
theorem dX8_leavesOut_28 : decode cX8_leavesOut 28 = .ok (.getfield 55, 3) := by decide +kernel
theorem dX8_leavesOut_31 : decode cX8_leavesOut 31 = .ok (.iload 4, 2) := by decide +kernel
theorem dX8_leavesOut_33 : decode cX8_leavesOut 33 = .ok (.iconst 1, 1) := by decide +kernel
theorem dX8_leavesOut_34 : decode cX8_leavesOut 34 = .ok (.iadd, 1) := by decide +kernel
theorem dX8_leavesOut_35 : decode cX8_leavesOut 35 = .ok (.iaload, 1) := by decide +kernel
theorem dX8_leavesOut_36 : decode cX8_leavesOut 36 = .ok (.iastore, 1) := by decide +kernel
theorem dX8_leavesOut_37 : decode cX8_leavesOut 37 = .ok (.iinc 4 1, 3) := by decide +kernel
theorem dX8_leavesOut_40 : decode cX8_leavesOut 40 = .ok (.goto (-30), 3) := by decide +kernel
theorem dX8_leavesOut_43 : decode cX8_leavesOut 43 = .ok (.aload_n 0, 1) := by decide +kernel
theorem dX8_leavesOut_44 : decode cX8_leavesOut 44 = .ok (.dup, 1) := by decide +kernel
theorem dX8_leavesOut_45 : decode cX8_leavesOut 45 = .ok (.getfield 231, 3) := by decide +kernel
theorem dX8_leavesOut_48 : decode cX8_leavesOut 48 = .ok (.iconst 1, 1) := by decide +kernel
theorem dX8_leavesOut_49 : decode cX8_leavesOut 49 = .ok (.isub, 1) := by decide +kernel
theorem dX8_leavesOut_50 : decode cX8_leavesOut 50 = .ok (.putfield 231, 3) := by decide +kernel
theorem dX8_leavesOut_53 : decode cX8_leavesOut 53 = .ok (.aload_n 0, 1) := by decide +kernel
theorem dX8_leavesOut_54 : decode cX8_leavesOut 54 = .ok (.iload_n 1, 1) := by decide +kernel
theorem dX8_leavesOut_55 : decode cX8_leavesOut 55 = .ok (.invokevirtual 307, 3) := by decide +kernel
theorem dX8_leavesOut_58 : decode cX8_leavesOut 58 = .ok (.ifCond .eq 5, 3) := by decide +kernel
theorem dX8_leavesOut_61 : decode cX8_leavesOut 61 = .ok (.iconst 1, 1) := by decide +kernel
theorem dX8_leavesOut_62 : decode cX8_leavesOut 62 = .ok (.ireturn, 1) := by decide +kernel
theorem dX8_leavesOut_63 : decode cX8_leavesOut 63 = .ok (.aload_n 0, 1) := by decide +kernel
theorem dX8_leavesOut_64 : decode cX8_leavesOut 64 = .ok (.getfield 231, 3) := by decide +kernel
theorem dX8_leavesOut_67 : decode cX8_leavesOut 67 = .ok (.istore 4, 2) := by decide +kernel
theorem dX8_leavesOut_69 : decode cX8_leavesOut 69 = .ok (.iload 4, 2) := by decide +kernel
theorem dX8_leavesOut_71 : decode cX8_leavesOut 71 = .ok (.iload_n 2, 1) := by decide +kernel
theorem dX8_leavesOut_72 : decode cX8_leavesOut 72 = .ok (.if_icmp .le 25, 3) := by decide +kernel
theorem dX8_leavesOut_75 : decode cX8_leavesOut 75 = .ok (.aload_n 0, 1) := by decide +kernel
theorem dX8_leavesOut_76 : decode cX8_leavesOut 76 = .ok (.getfield 55, 3) := by decide +kernel
theorem dX8_leavesOut_79 : decode cX8_leavesOut 79 = .ok (.iload 4, 2) := by decide +kernel
theorem dX8_leavesOut_81 : decode cX8_leavesOut 81 = .ok (.aload_n 0, 1) := by decide +kernel
theorem dX8_leavesOut_82 : decode cX8_leavesOut 82 = .ok (.getfield 55, 3) := by decide +kernel
theorem dX8_leavesOut_85 : decode cX8_leavesOut 85 = .ok (.iload 4, 2) := by decide +kernel
theorem dX8_leavesOut_87 : decode cX8_leavesOut 87 = .ok (.iconst 1, 1) := by decide +kernel
theorem dX8_leavesOut_88 : decode cX8_leavesOut 88 = .ok (.isub, 1) := by decide +kernel
theorem dX8_leavesOut_89 : decode cX8_leavesOut 89 = .ok (.iaload, 1) := by decide +kernel
theorem dX8_leavesOut_90 : decode cX8_leavesOut 90 = .ok (.iastore, 1) := by decide +kernel
theorem dX8_leavesOut_91 : decode cX8_leavesOut 91 = .ok (.iinc 4 (-1), 3) := by decide +kernel
theorem dX8_leavesOut_94 : decode cX8_leavesOut 94 = .ok (.goto (-25), 3) := by decide +kernel
theorem dX8_leavesOut_97 : decode cX8_leavesOut 97 = .ok (.aload_n 0, 1) := by decide +kernel
theorem dX8_leavesOut_98 : decode cX8_leavesOut 98 = .ok (.getfield 55, 3) := by decide +kernel
theorem dX8_leavesOut_101 : decode cX8_leavesOut 101 = .ok (.iload_n 2, 1) := by decide +kernel
theorem dX8_leavesOut_102 : decode cX8_leavesOut 102 = .ok (.iload_n 3, 1) := by decide +kernel
theorem dX8_leavesOut_103 : decode cX8_leavesOut 103 = .ok (.iastore, 1) := by decide +kernel
theorem dX8_leavesOut_104 : decode cX8_leavesOut 104 = .ok (.aload_n 0, 1) := by decide +kernel
theorem dX8_leavesOut_105 : decode cX8_leavesOut 105 = .ok (.dup, 1) := by decide +kernel
theorem dX8_leavesOut_106 : decode cX8_leavesOut 106 = .ok (.getfield 231, 3) := by decide +kernel
theorem dX8_leavesOut_109 : decode cX8_leavesOut 109 = .ok (.iconst 1, 1) := by decide +kernel
theorem dX8_leavesOut_110 : decode cX8_leavesOut 110 = .ok (.iadd, 1) := by decide +kernel
theorem dX8_leavesOut_111 : decode cX8_leavesOut 111 = .ok (.putfield 231, 3) := by decide +kernel
theorem dX8_leavesOut_114 : decode cX8_leavesOut 114 = .ok (.iconst 0, 1) := by decide +kernel
theorem dX8_leavesOut_115 : decode cX8_leavesOut 115 = .ok (.ireturn, 1) := by decide +kernel
theorem dX8_small_0 : decode cX8_small 0 = .ok (.iload_n 1, 1) := by decide +kernel
theorem dX8_small_1 : decode cX8_small 1 = .ok (.invokestatic 181, 3) := by decide +kernel
theorem dX8_small_4 : decode cX8_small 4 = .ok (.ifCond .eq 11, 3) := by decide +kernel
theorem dX8_small_7 : decode cX8_small 7 = .ok (.aload_n 0, 1) := by decide +kernel
theorem dX8_small_8 : decode cX8_small 8 = .ok (.iload_n 2, 1) := by decide +kernel
theorem dX8_small_9 : decode cX8_small 9 = .ok (.invokevirtual 228, 3) := by decide +kernel
theorem dX8_small_12 : decode cX8_small 12 = .ok (.ifCond .ne 5, 3) := by decide +kernel
theorem dX8_small_15 : decode cX8_small 15 = .ok (.iconst (-1), 1) := by decide +kernel
theorem dX8_small_16 : decode cX8_small 16 = .ok (.ireturn, 1) := by decide +kernel
theorem dX8_small_17 : decode cX8_small 17 = .ok (.aload_n 0, 1) := by decide +kernel
theorem dX8_small_18 : decode cX8_small 18 = .ok (.iload_n 2, 1) := by decide +kernel
theorem dX8_small_19 : decode cX8_small 19 = .ok (.invokevirtual 282, 3) := by decide +kernel
theorem dX8_small_22 : decode cX8_small 22 = .ok (.aload_n 0, 1) := by decide +kernel
theorem dX8_small_23 : decode cX8_small 23 = .ok (.iload_n 1, 1) := by decide +kernel
theorem dX8_small_24 : decode cX8_small 24 = .ok (.invokevirtual 285, 3) := by decide +kernel
theorem dX8_small_27 : decode cX8_small 27 = .ok (.aload_n 0, 1) := by decide +kernel
theorem dX8_small_28 : decode cX8_small 28 = .ok (.getfield 234, 3) := by decide +kernel
theorem dX8_small_31 : decode cX8_small 31 = .ok (.invokestatic 310, 3) := by decide +kernel
theorem dX8_small_34 : decode cX8_small 34 = .ok (.ifCond .ne 5, 3) := by decide +kernel
theorem dX8_small_37 : decode cX8_small 37 = .ok (.iconst (-1), 1) := by decide +kernel
theorem dX8_small_38 : decode cX8_small 38 = .ok (.ireturn, 1) := by decide +kernel
theorem dX8_small_39 : decode cX8_small 39 = .ok (.aload_n 0, 1) := by decide +kernel
theorem dX8_small_40 : decode cX8_small 40 = .ok (.invokevirtual 313, 3) := by decide +kernel
theorem dX8_small_43 : decode cX8_small 43 = .ok (.iconst 1, 1) := by decide +kernel
theorem dX8_small_44 : decode cX8_small 44 = .ok (.istore_n 3, 1) := by decide +kernel
theorem dX8_small_45 : decode cX8_small 45 = .ok (.iload_n 3, 1) := by decide +kernel
theorem dX8_small_46 : decode cX8_small 46 = .ok (.ifCond .eq 41, 3) := by decide +kernel
theorem dX8_small_49 : decode cX8_small 49 = .ok (.iconst 0, 1) := by decide +kernel
theorem dX8_small_50 : decode cX8_small 50 = .ok (.istore_n 3, 1) := by decide +kernel
theorem dX8_small_51 : decode cX8_small 51 = .ok (.iconst 0, 1) := by decide +kernel
theorem dX8_small_52 : decode cX8_small 52 = .ok (.istore 4, 2) := by decide +kernel
theorem dX8_small_54 : decode cX8_small 54 = .ok (.iload 4, 2) := by decide +kernel
theorem dX8_small_56 : decode cX8_small 56 = .ok (.aload_n 0, 1) := by decide +kernel
theorem dX8_small_57 : decode cX8_small 57 = .ok (.getfield 231, 3) := by decide +kernel
theorem dX8_small_60 : decode cX8_small 60 = .ok (.if_icmp .ge 24, 3) := by decide +kernel
theorem dX8_small_63 : decode cX8_small 63 = .ok (.aload_n 0, 1) := by decide +kernel
theorem dX8_small_64 : decode cX8_small 64 = .ok (.iload_n 1, 1) := by decide +kernel
theorem dX8_small_65 : decode cX8_small 65 = .ok (.iload 4, 2) := by decide +kernel
theorem dX8_small_67 : decode cX8_small 67 = .ok (.invokevirtual 316, 3) := by decide +kernel
theorem dX8_small_70 : decode cX8_small 70 = .ok (.ifCond .eq 8, 3) := by decide +kernel
theorem dX8_small_73 : decode cX8_small 73 = .ok (.iconst 1, 1) := by decide +kernel
theorem dX8_small_74 : decode cX8_small 74 = .ok (.istore_n 3, 1) := by decide +kernel
theorem dX8_small_75 : decode cX8_small 75 = .ok (.goto (-21), 3) := by decide +kernel
theorem dX8_small_78 : decode cX8_small 78 = .ok (.iinc 4 1, 3) := by decide +kernel
theorem dX8_small_81 : decode cX8_small 81 = .ok (.goto (-27), 3) := by decide +kernel
theorem dX8_small_84 : decode cX8_small 84 = .ok (.goto (-39), 3) := by decide +kernel
theorem dX8_small_87 : decode cX8_small 87 = .ok (.aload_n 0, 1) := by decide +kernel
theorem dX8_small_88 : decode cX8_small 88 = .ok (.aload_n 0, 1) := by decide +kernel
theorem dX8_small_89 : decode cX8_small 89 = .ok (.getfield 231, 3) := by decide +kernel
theorem dX8_small_92 : decode cX8_small 92 = .ok (.putfield 106, 3) := by decide +kernel
theorem dX8_small_95 : decode cX8_small 95 = .ok (.iconst 0, 1) := by decide +kernel
theorem dX8_small_96 : decode cX8_small 96 = .ok (.istore 4, 2) := by decide +kernel
theorem dX8_small_98 : decode cX8_small 98 = .ok (.iload 4, 2) := by decide +kernel
theorem dX8_small_100 : decode cX8_small 100 = .ok (.aload_n 0, 1) := by decide +kernel
theorem dX8_small_101 : decode cX8_small 101 = .ok (.getfield 106, 3) := by decide +kernel
theorem dX8_small_104 : decode cX8_small 104 = .ok (.if_icmp .ge 23, 3) := by decide +kernel
theorem dX8_small_107 : decode cX8_small 107 = .ok (.aload_n 0, 1) := by decide +kernel
theorem dX8_small_108 : decode cX8_small 108 = .ok (.getfield 100, 3) := by decide +kernel
theorem dX8_small_111 : decode cX8_small 111 = .ok (.iload 4, 2) := by decide +kernel
theorem dX8_small_113 : decode cX8_small 113 = .ok (.aload_n 0, 1) := by decide +kernel
theorem dX8_small_114 : decode cX8_small 114 = .ok (.getfield 55, 3) := by decide +kernel
theorem dX8_small_117 : decode cX8_small 117 = .ok (.iload 4, 2) := by decide +kernel
theorem dX8_small_119 : decode cX8_small 119 = .ok (.iaload, 1) := by decide +kernel
theorem dX8_small_120 : decode cX8_small 120 = .ok (.iastore, 1) := by decide +kernel
theorem dX8_small_121 : decode cX8_small 121 = .ok (.iinc 4 1, 3) := by decide +kernel
theorem dX8_small_124 : decode cX8_small 124 = .ok (.goto (-26), 3) := by decide +kernel
theorem dX8_small_127 : decode cX8_small 127 = .ok (.iconst 0, 1) := by decide +kernel
theorem dX8_small_128 : decode cX8_small 128 = .ok (.istore 4, 2) := by decide +kernel
theorem dX8_small_130 : decode cX8_small 130 = .ok (.iload 4, 2) := by decide +kernel
theorem dX8_small_132 : decode cX8_small 132 = .ok (.aload_n 0, 1) := by decide +kernel
theorem dX8_small_133 : decode cX8_small 133 = .ok (.getfield 106, 3) := by decide +kernel
theorem dX8_small_136 : decode cX8_small 136 = .ok (.if_icmp .ge 53, 3) := by decide +kernel
theorem dX8_small_139 : decode cX8_small 139 = .ok (.aload_n 0, 1) := by decide +kernel
theorem dX8_small_140 : decode cX8_small 140 = .ok (.getfield 55, 3) := by decide +kernel
theorem dX8_small_143 : decode cX8_small 143 = .ok (.iload 4, 2) := by decide +kernel
theorem dX8_small_145 : decode cX8_small 145 = .ok (.iconst 0, 1) := by decide +kernel
theorem dX8_small_146 : decode cX8_small 146 = .ok (.iastore, 1) := by decide +kernel
theorem dX8_small_147 : decode cX8_small 147 = .ok (.aload_n 0, 1) := by decide +kernel
theorem dX8_small_148 : decode cX8_small 148 = .ok (.iload_n 1, 1) := by decide +kernel
theorem dX8_small_149 : decode cX8_small 149 = .ok (.invokevirtual 307, 3) := by decide +kernel
theorem dX8_small_152 : decode cX8_small 152 = .ok (.ifCond .ne 17, 3) := by decide +kernel
theorem dX8_small_155 : decode cX8_small 155 = .ok (.aload_n 0, 1) := by decide +kernel
theorem dX8_small_156 : decode cX8_small 156 = .ok (.getfield 55, 3) := by decide +kernel
theorem dX8_small_159 : decode cX8_small 159 = .ok (.iload 4, 2) := by decide +kernel
theorem dX8_small_161 : decode cX8_small 161 = .ok (.dup2, 1) := by decide +kernel
theorem dX8_small_162 : decode cX8_small 162 = .ok (.iaload, 1) := by decide +kernel
theorem dX8_small_163 : decode cX8_small 163 = .ok (.iconst 1, 1) := by decide +kernel
theorem dX8_small_164 : decode cX8_small 164 = .ok (.iadd, 1) := by decide +kernel
theorem dX8_small_165 : decode cX8_small 165 = .ok (.iastore, 1) := by decide +kernel
theorem dX8_small_166 : decode cX8_small 166 = .ok (.goto (-19), 3) := by decide +kernel
theorem dX8_small_169 : decode cX8_small 169 = .ok (.aload_n 0, 1) := by decide +kernel
theorem dX8_small_170 : decode cX8_small 170 = .ok (.getfield 103, 3) := by decide +kernel
theorem dX8_small_173 : decode cX8_small 173 = .ok (.iload 4, 2) := by decide +kernel
theorem dX8_small_175 : decode cX8_small 175 = .ok (.aload_n 0, 1) := by decide +kernel
theorem dX8_small_176 : decode cX8_small 176 = .ok (.getfield 55, 3) := by decide +kernel
theorem dX8_small_179 : decode cX8_small 179 = .ok (.iload 4, 2) := by decide +kernel
theorem dX8_small_181 : decode cX8_small 181 = .ok (.iaload, 1) := by decide +kernel
theorem dX8_small_182 : decode cX8_small 182 = .ok (.iastore, 1) := by decide +kernel
theorem dX8_small_183 : decode cX8_small 183 = .ok (.iinc 4 1, 3) := by decide +kernel
theorem dX8_small_186 : decode cX8_small 186 = .ok (.goto (-56), 3) := by decide +kernel
theorem dX8_small_189 : decode cX8_small 189 = .ok (.aload_n 0, 1) := by decide +kernel
theorem dX8_small_190 : decode cX8_small 190 = .ok (.getfield 106, 3) := by decide +kernel
theorem dX8_small_193 : decode cX8_small 193 = .ok (.ireturn, 1) := by decide +kernel
theorem dX8_smallByte_0 : decode cX8_smallByte 0 = .ok (.iload_n 1, 1) := by decide +kernel
theorem dX8_smallByte_1 : decode cX8_smallByte 1 = .ok (.ifCond .lt 11, 3) := by decide +kernel
theorem dX8_smallByte_4 : decode cX8_smallByte 4 = .ok (.iload_n 1, 1) := by decide +kernel
theorem dX8_smallByte_5 : decode cX8_smallByte 5 = .ok (.aload_n 0, 1) := by decide +kernel
theorem dX8_smallByte_6 : decode cX8_smallByte 6 = .ok (.getfield 106, 3) := by decide +kernel
theorem dX8_smallByte_9 : decode cX8_smallByte 9 = .ok (.if_icmp .lt 7, 3) := by decide +kernel
theorem dX8_smallByte_12 : decode cX8_smallByte 12 = .ok (.iconst (-1), 1) := by decide +kernel
theorem dX8_smallByte_13 : decode cX8_smallByte 13 = .ok (.goto 22, 3) := by decide +kernel
theorem dX8_smallByte_16 : decode cX8_smallByte 16 = .ok (.iload_n 2, 1) := by decide +kernel
theorem dX8_smallByte_17 : decode cX8_smallByte 17 = .ok (.ifCond .eq 12, 3) := by decide +kernel
theorem dX8_smallByte_20 : decode cX8_smallByte 20 = .ok (.aload_n 0, 1) := by decide +kernel
theorem dX8_smallByte_21 : decode cX8_smallByte 21 = .ok (.getfield 103, 3) := by decide +kernel
theorem dX8_smallByte_24 : decode cX8_smallByte 24 = .ok (.iload_n 1, 1) := by decide +kernel
theorem dX8_smallByte_25 : decode cX8_smallByte 25 = .ok (.iaload, 1) := by decide +kernel
theorem dX8_smallByte_26 : decode cX8_smallByte 26 = .ok (.goto 9, 3) := by decide +kernel
theorem dX8_smallByte_29 : decode cX8_smallByte 29 = .ok (.aload_n 0, 1) := by decide +kernel
theorem dX8_smallByte_30 : decode cX8_smallByte 30 = .ok (.getfield 100, 3) := by decide +kernel
theorem dX8_smallByte_33 : decode cX8_smallByte 33 = .ok (.iload_n 1, 1) := by decide +kernel
theorem dX8_smallByte_34 : decode cX8_smallByte 34 = .ok (.iaload, 1) := by decide +kernel
theorem dX8_smallByte_35 : decode cX8_smallByte 35 = .ok (.ireturn, 1) := by decide +kernel
theorem dX8_ruled_0 : decode cX8_ruled 0 = .ok (.iload_n 1, 1) := by decide +kernel
theorem dX8_ruled_1 : decode cX8_ruled 1 = .ok (.invokestatic 181, 3) := by decide +kernel
theorem dX8_ruled_4 : decode cX8_ruled 4 = .ok (.ifCond .eq 11, 3) := by decide +kernel
theorem dX8_ruled_7 : decode cX8_ruled 7 = .ok (.aload_n 0, 1) := by decide +kernel
theorem dX8_ruled_8 : decode cX8_ruled 8 = .ok (.iload_n 2, 1) := by decide +kernel
theorem dX8_ruled_9 : decode cX8_ruled 9 = .ok (.invokevirtual 228, 3) := by decide +kernel
theorem dX8_ruled_12 : decode cX8_ruled 12 = .ok (.ifCond .ne 5, 3) := by decide +kernel
theorem dX8_ruled_15 : decode cX8_ruled 15 = .ok (.iconst (-1), 1) := by decide +kernel
theorem dX8_ruled_16 : decode cX8_ruled 16 = .ok (.ireturn, 1) := by decide +kernel
theorem dX8_ruled_17 : decode cX8_ruled 17 = .ok (.aload_n 0, 1) := by decide +kernel
theorem dX8_ruled_18 : decode cX8_ruled 18 = .ok (.iload_n 2, 1) := by decide +kernel
theorem dX8_ruled_19 : decode cX8_ruled 19 = .ok (.invokevirtual 282, 3) := by decide +kernel
theorem dX8_ruled_22 : decode cX8_ruled 22 = .ok (.aload_n 0, 1) := by decide +kernel
theorem dX8_ruled_23 : decode cX8_ruled 23 = .ok (.iload_n 1, 1) := by decide +kernel
theorem dX8_ruled_24 : decode cX8_ruled 24 = .ok (.invokevirtual 285, 3) := by decide +kernel
theorem dX8_ruled_27 : decode cX8_ruled 27 = .ok (.aload_n 0, 1) := by decide +kernel
theorem dX8_ruled_28 : decode cX8_ruled 28 = .ok (.getfield 234, 3) := by decide +kernel
theorem dX8_ruled_31 : decode cX8_ruled 31 = .ok (.invokestatic 310, 3) := by decide +kernel
theorem dX8_ruled_34 : decode cX8_ruled 34 = .ok (.ifCond .ne 5, 3) := by decide +kernel
theorem dX8_ruled_37 : decode cX8_ruled 37 = .ok (.iconst 0, 1) := by decide +kernel
theorem dX8_ruled_38 : decode cX8_ruled 38 = .ok (.ireturn, 1) := by decide +kernel
theorem dX8_ruled_39 : decode cX8_ruled 39 = .ok (.aload_n 0, 1) := by decide +kernel
theorem dX8_ruled_40 : decode cX8_ruled 40 = .ok (.invokevirtual 313, 3) := by decide +kernel
theorem dX8_ruled_43 : decode cX8_ruled 43 = .ok (.aload_n 0, 1) := by decide +kernel
theorem dX8_ruled_44 : decode cX8_ruled 44 = .ok (.getfield 240, 3) := by decide +kernel
theorem dX8_ruled_47 : decode cX8_ruled 47 = .ok (.istore_n 3, 1) := by decide +kernel
theorem dX8_ruled_48 : decode cX8_ruled 48 = .ok (.iconst 0, 1) := by decide +kernel
theorem dX8_ruled_49 : decode cX8_ruled 49 = .ok (.istore 4, 2) := by decide +kernel
theorem dX8_ruled_51 : decode cX8_ruled 51 = .ok (.iconst 0, 1) := by decide +kernel
theorem dX8_ruled_52 : decode cX8_ruled 52 = .ok (.istore 5, 2) := by decide +kernel
theorem dX8_ruled_54 : decode cX8_ruled 54 = .ok (.iload 5, 2) := by decide +kernel
theorem dX8_ruled_56 : decode cX8_ruled 56 = .ok (.aload_n 0, 1) := by decide +kernel
theorem dX8_ruled_57 : decode cX8_ruled 57 = .ok (.getfield 231, 3) := by decide +kernel
theorem dX8_ruled_60 : decode cX8_ruled 60 = .ok (.if_icmp .ge 107, 3) := by decide +kernel
theorem dX8_ruled_63 : decode cX8_ruled 63 = .ok (.aload_n 0, 1) := by decide +kernel
theorem dX8_ruled_64 : decode cX8_ruled 64 = .ok (.getfield 55, 3) := by decide +kernel
theorem dX8_ruled_67 : decode cX8_ruled 67 = .ok (.iload 5, 2) := by decide +kernel
theorem dX8_ruled_69 : decode cX8_ruled 69 = .ok (.iaload, 1) := by decide +kernel
theorem dX8_ruled_70 : decode cX8_ruled 70 = .ok (.istore 6, 2) := by decide +kernel
theorem dX8_ruled_72 : decode cX8_ruled 72 = .ok (.iconst 0, 1) := by decide +kernel
theorem dX8_ruled_73 : decode cX8_ruled 73 = .ok (.istore 7, 2) := by decide +kernel
theorem dX8_ruled_75 : decode cX8_ruled 75 = .ok (.iload 7, 2) := by decide +kernel
theorem dX8_ruled_77 : decode cX8_ruled 77 = .ok (.sipush 256, 3) := by decide +kernel
theorem dX8_ruled_80 : decode cX8_ruled 80 = .ok (.if_icmp .ge 72, 3) := by decide +kernel
theorem dX8_ruled_83 : decode cX8_ruled 83 = .ok (.iload 4, 2) := by decide +kernel
theorem dX8_ruled_85 : decode cX8_ruled 85 = .ok (.iload 5, 2) := by decide +kernel
theorem dX8_ruled_87 : decode cX8_ruled 87 = .ok (.ishr, 1) := by decide +kernel
theorem dX8_ruled_88 : decode cX8_ruled 88 = .ok (.iconst 1, 1) := by decide +kernel
theorem dX8_ruled_89 : decode cX8_ruled 89 = .ok (.iand, 1) := by decide +kernel
theorem dX8_ruled_90 : decode cX8_ruled 90 = .ok (.ifCond .ne 62, 3) := by decide +kernel
theorem dX8_ruled_93 : decode cX8_ruled 93 = .ok (.aload_n 0, 1) := by decide +kernel
theorem dX8_ruled_94 : decode cX8_ruled 94 = .ok (.getfield 55, 3) := by decide +kernel
theorem dX8_ruled_97 : decode cX8_ruled 97 = .ok (.iload 5, 2) := by decide +kernel
theorem dX8_ruled_99 : decode cX8_ruled 99 = .ok (.iload 7, 2) := by decide +kernel
theorem dX8_ruled_101 : decode cX8_ruled 101 = .ok (.iastore, 1) := by decide +kernel
theorem dX8_ruled_102 : decode cX8_ruled 102 = .ok (.aload_n 0, 1) := by decide +kernel
theorem dX8_ruled_103 : decode cX8_ruled 103 = .ok (.iload_n 1, 1) := by decide +kernel
theorem dX8_ruled_104 : decode cX8_ruled 104 = .ok (.invokevirtual 285, 3) := by decide +kernel
theorem dX8_ruled_107 : decode cX8_ruled 107 = .ok (.aload_n 0, 1) := by decide +kernel
theorem dX8_ruled_108 : decode cX8_ruled 108 = .ok (.getfield 234, 3) := by decide +kernel
theorem dX8_ruled_111 : decode cX8_ruled 111 = .ok (.aload_n 0, 1) := by decide +kernel
theorem dX8_ruled_112 : decode cX8_ruled 112 = .ok (.getfield 298, 3) := by decide +kernel
theorem dX8_ruled_115 : decode cX8_ruled 115 = .ok (.if_icmp .ne 31, 3) := by decide +kernel
theorem dX8_ruled_118 : decode cX8_ruled 118 = .ok (.aload_n 0, 1) := by decide +kernel
theorem dX8_ruled_119 : decode cX8_ruled 119 = .ok (.getfield 237, 3) := by decide +kernel
theorem dX8_ruled_122 : decode cX8_ruled 122 = .ok (.aload_n 0, 1) := by decide +kernel
theorem dX8_ruled_123 : decode cX8_ruled 123 = .ok (.getfield 301, 3) := by decide +kernel
theorem dX8_ruled_126 : decode cX8_ruled 126 = .ok (.if_icmp .ne 20, 3) := by decide +kernel
theorem dX8_ruled_129 : decode cX8_ruled 129 = .ok (.aload_n 0, 1) := by decide +kernel
theorem dX8_ruled_130 : decode cX8_ruled 130 = .ok (.getfield 240, 3) := by decide +kernel
theorem dX8_ruled_133 : decode cX8_ruled 133 = .ok (.iload_n 3, 1) := by decide +kernel
theorem dX8_ruled_134 : decode cX8_ruled 134 = .ok (.if_icmp .eq 12, 3) := by decide +kernel
theorem dX8_ruled_137 : decode cX8_ruled 137 = .ok (.iload 4, 2) := by decide +kernel
theorem dX8_ruled_139 : decode cX8_ruled 139 = .ok (.iconst 1, 1) := by decide +kernel
theorem dX8_ruled_140 : decode cX8_ruled 140 = .ok (.iload 5, 2) := by decide +kernel
theorem dX8_ruled_142 : decode cX8_ruled 142 = .ok (.ishl, 1) := by decide +kernel
theorem dX8_ruled_143 : decode cX8_ruled 143 = .ok (.ior, 1) := by decide +kernel
theorem dX8_ruled_144 : decode cX8_ruled 144 = .ok (.istore 4, 2) := by decide +kernel
theorem dX8_ruled_146 : decode cX8_ruled 146 = .ok (.iinc 7 1, 3) := by decide +kernel
theorem dX8_ruled_149 : decode cX8_ruled 149 = .ok (.goto (-74), 3) := by decide +kernel
theorem dX8_ruled_152 : decode cX8_ruled 152 = .ok (.aload_n 0, 1) := by decide +kernel
theorem dX8_ruled_153 : decode cX8_ruled 153 = .ok (.getfield 55, 3) := by decide +kernel
theorem dX8_ruled_156 : decode cX8_ruled 156 = .ok (.iload 5, 2) := by decide +kernel
theorem dX8_ruled_158 : decode cX8_ruled 158 = .ok (.iload 6, 2) := by decide +kernel
theorem dX8_ruled_160 : decode cX8_ruled 160 = .ok (.iastore, 1) := by decide +kernel
theorem dX8_ruled_161 : decode cX8_ruled 161 = .ok (.iinc 5 1, 3) := by decide +kernel
theorem dX8_ruled_164 : decode cX8_ruled 164 = .ok (.goto (-110), 3) := by decide +kernel
theorem dX8_ruled_167 : decode cX8_ruled 167 = .ok (.iload 4, 2) := by decide +kernel
theorem dX8_ruled_169 : decode cX8_ruled 169 = .ok (.ireturn, 1) := by decide +kernel
theorem dX8_seek_0 : decode cX8_seek 0 = .ok (.aload_n 0, 1) := by decide +kernel
theorem dX8_seek_1 : decode cX8_seek 1 = .ok (.iconst (-1), 1) := by decide +kernel
theorem dX8_seek_2 : decode cX8_seek 2 = .ok (.putfield 320, 3) := by decide +kernel
theorem dX8_seek_5 : decode cX8_seek 5 = .ok (.aload_n 0, 1) := by decide +kernel
theorem dX8_seek_6 : decode cX8_seek 6 = .ok (.iconst (-1), 1) := by decide +kernel
theorem dX8_seek_7 : decode cX8_seek 7 = .ok (.putfield 323, 3) := by decide +kernel
theorem dX8_seek_10 : decode cX8_seek 10 = .ok (.iload_n 1, 1) := by decide +kernel
theorem dX8_seek_11 : decode cX8_seek 11 = .ok (.invokestatic 181, 3) := by decide +kernel
theorem dX8_seek_14 : decode cX8_seek 14 = .ok (.ifCond .eq 11, 3) := by decide +kernel
theorem dX8_seek_17 : decode cX8_seek 17 = .ok (.aload_n 0, 1) := by decide +kernel
theorem dX8_seek_18 : decode cX8_seek 18 = .ok (.iload_n 2, 1) := by decide +kernel
theorem dX8_seek_19 : decode cX8_seek 19 = .ok (.invokevirtual 228, 3) := by decide +kernel
theorem dX8_seek_22 : decode cX8_seek 22 = .ok (.ifCond .ne 4, 3) := by decide +kernel
theorem dX8_seek_25 : decode cX8_seek 25 = .ok (.return_, 1) := by decide +kernel
theorem dX8_seek_26 : decode cX8_seek 26 = .ok (.aload_n 0, 1) := by decide +kernel
theorem dX8_seek_27 : decode cX8_seek 27 = .ok (.iload_n 2, 1) := by decide +kernel
theorem dX8_seek_28 : decode cX8_seek 28 = .ok (.invokevirtual 282, 3) := by decide +kernel
theorem dX8_seek_31 : decode cX8_seek 31 = .ok (.aload_n 0, 1) := by decide +kernel
theorem dX8_seek_32 : decode cX8_seek 32 = .ok (.iload_n 1, 1) := by decide +kernel
theorem dX8_seek_33 : decode cX8_seek 33 = .ok (.invokevirtual 285, 3) := by decide +kernel
theorem dX8_seek_36 : decode cX8_seek 36 = .ok (.aload_n 0, 1) := by decide +kernel
theorem dX8_seek_37 : decode cX8_seek 37 = .ok (.getfield 234, 3) := by decide +kernel
theorem dX8_seek_40 : decode cX8_seek 40 = .ok (.ifCond .ne 4, 3) := by decide +kernel
theorem dX8_seek_43 : decode cX8_seek 43 = .ok (.return_, 1) := by decide +kernel
theorem dX8_seek_44 : decode cX8_seek 44 = .ok (.iconst 0, 1) := by decide +kernel
theorem dX8_seek_45 : decode cX8_seek 45 = .ok (.istore_n 3, 1) := by decide +kernel
theorem dX8_seek_46 : decode cX8_seek 46 = .ok (.iload_n 3, 1) := by decide +kernel
theorem dX8_seek_47 : decode cX8_seek 47 = .ok (.aload_n 0, 1) := by decide +kernel
theorem dX8_seek_48 : decode cX8_seek 48 = .ok (.getfield 231, 3) := by decide +kernel
theorem dX8_seek_51 : decode cX8_seek 51 = .ok (.if_icmp .ge 77, 3) := by decide +kernel
theorem dX8_seek_54 : decode cX8_seek 54 = .ok (.aload_n 0, 1) := by decide +kernel
theorem dX8_seek_55 : decode cX8_seek 55 = .ok (.getfield 55, 3) := by decide +kernel
theorem dX8_seek_58 : decode cX8_seek 58 = .ok (.iload_n 3, 1) := by decide +kernel
theorem dX8_seek_59 : decode cX8_seek 59 = .ok (.iaload, 1) := by decide +kernel
theorem dX8_seek_60 : decode cX8_seek 60 = .ok (.istore 4, 2) := by decide +kernel
theorem dX8_seek_62 : decode cX8_seek 62 = .ok (.iconst 0, 1) := by decide +kernel
theorem dX8_seek_63 : decode cX8_seek 63 = .ok (.istore 5, 2) := by decide +kernel
theorem dX8_seek_65 : decode cX8_seek 65 = .ok (.iload 5, 2) := by decide +kernel
theorem dX8_seek_67 : decode cX8_seek 67 = .ok (.sipush 256, 3) := by decide +kernel
theorem dX8_seek_70 : decode cX8_seek 70 = .ok (.if_icmp .ge 44, 3) := by decide +kernel
theorem dX8_seek_73 : decode cX8_seek 73 = .ok (.aload_n 0, 1) := by decide +kernel
theorem dX8_seek_74 : decode cX8_seek 74 = .ok (.getfield 55, 3) := by decide +kernel
theorem dX8_seek_77 : decode cX8_seek 77 = .ok (.iload_n 3, 1) := by decide +kernel
theorem dX8_seek_78 : decode cX8_seek 78 = .ok (.iload 5, 2) := by decide +kernel
theorem dX8_seek_80 : decode cX8_seek 80 = .ok (.iastore, 1) := by decide +kernel
theorem dX8_seek_81 : decode cX8_seek 81 = .ok (.aload_n 0, 1) := by decide +kernel
theorem dX8_seek_82 : decode cX8_seek 82 = .ok (.iload_n 1, 1) := by decide +kernel
theorem dX8_seek_83 : decode cX8_seek 83 = .ok (.invokevirtual 285, 3) := by decide +kernel
theorem dX8_seek_86 : decode cX8_seek 86 = .ok (.aload_n 0, 1) := by decide +kernel
theorem dX8_seek_87 : decode cX8_seek 87 = .ok (.getfield 234, 3) := by decide +kernel
theorem dX8_seek_90 : decode cX8_seek 90 = .ok (.ifCond .eq 6, 3) := by decide +kernel
theorem dX8_seek_93 : decode cX8_seek 93 = .ok (.goto 15, 3) := by decide +kernel
theorem dX8_seek_96 : decode cX8_seek 96 = .ok (.aload_n 0, 1) := by decide +kernel
theorem dX8_seek_97 : decode cX8_seek 97 = .ok (.iload_n 3, 1) := by decide +kernel
theorem dX8_seek_98 : decode cX8_seek 98 = .ok (.putfield 320, 3) := by decide +kernel
theorem dX8_seek_101 : decode cX8_seek 101 = .ok (.aload_n 0, 1) := by decide +kernel
theorem dX8_seek_102 : decode cX8_seek 102 = .ok (.iload 5, 2) := by decide +kernel
theorem dX8_seek_104 : decode cX8_seek 104 = .ok (.putfield 323, 3) := by decide +kernel
theorem dX8_seek_107 : decode cX8_seek 107 = .ok (.return_, 1) := by decide +kernel
theorem dX8_seek_108 : decode cX8_seek 108 = .ok (.iinc 5 1, 3) := by decide +kernel
theorem dX8_seek_111 : decode cX8_seek 111 = .ok (.goto (-46), 3) := by decide +kernel
theorem dX8_seek_114 : decode cX8_seek 114 = .ok (.aload_n 0, 1) := by decide +kernel
theorem dX8_seek_115 : decode cX8_seek 115 = .ok (.getfield 55, 3) := by decide +kernel
theorem dX8_seek_118 : decode cX8_seek 118 = .ok (.iload_n 3, 1) := by decide +kernel
theorem dX8_seek_119 : decode cX8_seek 119 = .ok (.iload 4, 2) := by decide +kernel
theorem dX8_seek_121 : decode cX8_seek 121 = .ok (.iastore, 1) := by decide +kernel
theorem dX8_seek_122 : decode cX8_seek 122 = .ok (.iinc 3 1, 3) := by decide +kernel
theorem dX8_seek_125 : decode cX8_seek 125 = .ok (.goto (-79), 3) := by decide +kernel
theorem dX8_seek_128 : decode cX8_seek 128 = .ok (.return_, 1) := by decide +kernel
theorem dX8_nearest_0 : decode cX8_nearest 0 = .ok (.aload_n 0, 1) := by decide +kernel
theorem dX8_nearest_1 : decode cX8_nearest 1 = .ok (.iload_n 1, 1) := by decide +kernel
theorem dX8_nearest_2 : decode cX8_nearest 2 = .ok (.iload_n 2, 1) := by decide +kernel
theorem dX8_nearest_3 : decode cX8_nearest 3 = .ok (.invokevirtual 326, 3) := by decide +kernel
theorem dX8_nearest_6 : decode cX8_nearest 6 = .ok (.aload_n 0, 1) := by decide +kernel
theorem dX8_nearest_7 : decode cX8_nearest 7 = .ok (.getfield 320, 3) := by decide +kernel
theorem dX8_nearest_10 : decode cX8_nearest 10 = .ok (.ireturn, 1) := by decide +kernel
theorem dX8_nearestByte_0 : decode cX8_nearestByte 0 = .ok (.aload_n 0, 1) := by decide +kernel
theorem dX8_nearestByte_1 : decode cX8_nearestByte 1 = .ok (.iload_n 1, 1) := by decide +kernel
theorem dX8_nearestByte_2 : decode cX8_nearestByte 2 = .ok (.iload_n 2, 1) := by decide +kernel
theorem dX8_nearestByte_3 : decode cX8_nearestByte 3 = .ok (.invokevirtual 326, 3) := by decide +kernel
theorem dX8_nearestByte_6 : decode cX8_nearestByte 6 = .ok (.aload_n 0, 1) := by decide +kernel
theorem dX8_nearestByte_7 : decode cX8_nearestByte 7 = .ok (.getfield 323, 3) := by decide +kernel
theorem dX8_nearestByte_10 : decode cX8_nearestByte 10 = .ok (.ireturn, 1) := by decide +kernel
theorem dX8_areOutsAlike_0 : decode cX8_areOutsAlike 0 = .ok (.iload_n 1, 1) := by decide +kernel
theorem dX8_areOutsAlike_1 : decode cX8_areOutsAlike 1 = .ok (.aload_n 0, 1) := by decide +kernel
theorem dX8_areOutsAlike_2 : decode cX8_areOutsAlike 2 = .ok (.getfield 252, 3) := by decide +kernel
theorem dX8_areOutsAlike_5 : decode cX8_areOutsAlike 5 = .ok (.if_icmp .eq 5, 3) := by decide +kernel
theorem dX8_areOutsAlike_8 : decode cX8_areOutsAlike 8 = .ok (.iconst 0, 1) := by decide +kernel
theorem dX8_areOutsAlike_9 : decode cX8_areOutsAlike 9 = .ok (.ireturn, 1) := by decide +kernel
theorem dX8_areOutsAlike_10 : decode cX8_areOutsAlike 10 = .ok (.iconst 0, 1) := by decide +kernel
theorem dX8_areOutsAlike_11 : decode cX8_areOutsAlike 11 = .ok (.istore_n 2, 1) := by decide +kernel
theorem dX8_areOutsAlike_12 : decode cX8_areOutsAlike 12 = .ok (.iload_n 2, 1) := by decide +kernel
theorem dX8_areOutsAlike_13 : decode cX8_areOutsAlike 13 = .ok (.iload_n 1, 1) := by decide +kernel
theorem dX8_areOutsAlike_14 : decode cX8_areOutsAlike 14 = .ok (.if_icmp .ge 32, 3) := by decide +kernel
theorem dX8_areOutsAlike_17 : decode cX8_areOutsAlike 17 = .ok (.iload_n 2, 1) := by decide +kernel
theorem dX8_areOutsAlike_18 : decode cX8_areOutsAlike 18 = .ok (.bipush 40, 2) := by decide +kernel
theorem dX8_areOutsAlike_20 : decode cX8_areOutsAlike 20 = .ok (.if_icmp .ge 26, 3) := by decide +kernel
theorem dX8_areOutsAlike_23 : decode cX8_areOutsAlike 23 = .ok (.aload_n 0, 1) := by decide +kernel
theorem dX8_areOutsAlike_24 : decode cX8_areOutsAlike 24 = .ok (.getfield 67, 3) := by decide +kernel
theorem dX8_areOutsAlike_27 : decode cX8_areOutsAlike 27 = .ok (.iload_n 2, 1) := by decide +kernel
theorem dX8_areOutsAlike_28 : decode cX8_areOutsAlike 28 = .ok (.iaload, 1) := by decide +kernel
theorem dX8_areOutsAlike_29 : decode cX8_areOutsAlike 29 = .ok (.aload_n 0, 1) := by decide +kernel
theorem dX8_areOutsAlike_30 : decode cX8_areOutsAlike 30 = .ok (.getfield 109, 3) := by decide +kernel
theorem dX8_areOutsAlike_33 : decode cX8_areOutsAlike 33 = .ok (.iload_n 2, 1) := by decide +kernel
theorem dX8_areOutsAlike_34 : decode cX8_areOutsAlike 34 = .ok (.iaload, 1) := by decide +kernel
theorem dX8_areOutsAlike_35 : decode cX8_areOutsAlike 35 = .ok (.if_icmp .eq 5, 3) := by decide +kernel
theorem dX8_areOutsAlike_38 : decode cX8_areOutsAlike 38 = .ok (.iconst 0, 1) := by decide +kernel
theorem dX8_areOutsAlike_39 : decode cX8_areOutsAlike 39 = .ok (.ireturn, 1) := by decide +kernel
theorem dX8_areOutsAlike_40 : decode cX8_areOutsAlike 40 = .ok (.iinc 2 1, 3) := by decide +kernel
theorem dX8_areOutsAlike_43 : decode cX8_areOutsAlike 43 = .ok (.goto (-31), 3) := by decide +kernel
theorem dX8_areOutsAlike_46 : decode cX8_areOutsAlike 46 = .ok (.iconst 1, 1) := by decide +kernel
theorem dX8_areOutsAlike_47 : decode cX8_areOutsAlike 47 = .ok (.ireturn, 1) := by decide +kernel
theorem dX8_held_0 : decode cX8_held 0 = .ok (.iload_n 1, 1) := by decide +kernel
theorem dX8_held_1 : decode cX8_held 1 = .ok (.invokestatic 181, 3) := by decide +kernel
theorem dX8_held_4 : decode cX8_held 4 = .ok (.ifCond .eq 18, 3) := by decide +kernel
theorem dX8_held_7 : decode cX8_held 7 = .ok (.iload_n 2, 1) := by decide +kernel
theorem dX8_held_8 : decode cX8_held 8 = .ok (.invokestatic 181, 3) := by decide +kernel
theorem dX8_held_11 : decode cX8_held 11 = .ok (.ifCond .eq 11, 3) := by decide +kernel
theorem dX8_held_14 : decode cX8_held 14 = .ok (.aload_n 0, 1) := by decide +kernel
theorem dX8_held_15 : decode cX8_held 15 = .ok (.iload_n 3, 1) := by decide +kernel
theorem dX8_held_16 : decode cX8_held 16 = .ok (.invokevirtual 228, 3) := by decide +kernel
theorem dX8_held_19 : decode cX8_held 19 = .ok (.ifCond .ne 5, 3) := by decide +kernel
theorem dX8_held_22 : decode cX8_held 22 = .ok (.iconst (-1), 1) := by decide +kernel
theorem dX8_held_23 : decode cX8_held 23 = .ok (.ireturn, 1) := by decide +kernel
theorem dX8_held_24 : decode cX8_held 24 = .ok (.aload_n 0, 1) := by decide +kernel
theorem dX8_held_25 : decode cX8_held 25 = .ok (.iload_n 3, 1) := by decide +kernel
theorem dX8_held_26 : decode cX8_held 26 = .ok (.invokevirtual 282, 3) := by decide +kernel
theorem dX8_held_29 : decode cX8_held 29 = .ok (.aload_n 0, 1) := by decide +kernel
theorem dX8_held_30 : decode cX8_held 30 = .ok (.iload_n 1, 1) := by decide +kernel
theorem dX8_held_31 : decode cX8_held 31 = .ok (.invokevirtual 285, 3) := by decide +kernel
theorem dX8_held_34 : decode cX8_held 34 = .ok (.aload_n 0, 1) := by decide +kernel
theorem dX8_held_35 : decode cX8_held 35 = .ok (.getfield 234, 3) := by decide +kernel
theorem dX8_held_38 : decode cX8_held 38 = .ok (.istore 4, 2) := by decide +kernel
theorem dX8_held_40 : decode cX8_held 40 = .ok (.aload_n 0, 1) := by decide +kernel
theorem dX8_held_41 : decode cX8_held 41 = .ok (.getfield 252, 3) := by decide +kernel
theorem dX8_held_44 : decode cX8_held 44 = .ok (.istore 5, 2) := by decide +kernel
theorem dX8_held_46 : decode cX8_held 46 = .ok (.iconst 0, 1) := by decide +kernel
theorem dX8_held_47 : decode cX8_held 47 = .ok (.istore 6, 2) := by decide +kernel
theorem dX8_held_49 : decode cX8_held 49 = .ok (.iload 6, 2) := by decide +kernel
theorem dX8_held_51 : decode cX8_held 51 = .ok (.iload 5, 2) := by decide +kernel
theorem dX8_held_53 : decode cX8_held 53 = .ok (.if_icmp .ge 30, 3) := by decide +kernel
theorem dX8_held_56 : decode cX8_held 56 = .ok (.iload 6, 2) := by decide +kernel
theorem dX8_held_58 : decode cX8_held 58 = .ok (.bipush 40, 2) := by decide +kernel
theorem dX8_held_60 : decode cX8_held 60 = .ok (.if_icmp .ge 23, 3) := by decide +kernel
theorem dX8_held_63 : decode cX8_held 63 = .ok (.aload_n 0, 1) := by decide +kernel
theorem dX8_held_64 : decode cX8_held 64 = .ok (.getfield 109, 3) := by decide +kernel
theorem dX8_held_67 : decode cX8_held 67 = .ok (.iload 6, 2) := by decide +kernel
theorem dX8_held_69 : decode cX8_held 69 = .ok (.aload_n 0, 1) := by decide +kernel
theorem dX8_held_70 : decode cX8_held 70 = .ok (.getfield 67, 3) := by decide +kernel
theorem dX8_held_73 : decode cX8_held 73 = .ok (.iload 6, 2) := by decide +kernel
theorem dX8_held_75 : decode cX8_held 75 = .ok (.iaload, 1) := by decide +kernel
theorem dX8_held_76 : decode cX8_held 76 = .ok (.iastore, 1) := by decide +kernel
theorem dX8_held_77 : decode cX8_held 77 = .ok (.iinc 6 1, 3) := by decide +kernel
theorem dX8_held_80 : decode cX8_held 80 = .ok (.goto (-31), 3) := by decide +kernel
theorem dX8_held_83 : decode cX8_held 83 = .ok (.aload_n 0, 1) := by decide +kernel
theorem dX8_held_84 : decode cX8_held 84 = .ok (.iload_n 2, 1) := by decide +kernel
theorem dX8_held_85 : decode cX8_held 85 = .ok (.invokevirtual 285, 3) := by decide +kernel
theorem dX8_held_88 : decode cX8_held 88 = .ok (.iload 4, 2) := by decide +kernel
theorem dX8_held_90 : decode cX8_held 90 = .ok (.ifCond .ne 25, 3) := by decide +kernel
theorem dX8_held_93 : decode cX8_held 93 = .ok (.aload_n 0, 1) := by decide +kernel
theorem dX8_held_94 : decode cX8_held 94 = .ok (.getfield 234, 3) := by decide +kernel
theorem dX8_held_97 : decode cX8_held 97 = .ok (.ifCond .ne 18, 3) := by decide +kernel
theorem dX8_held_100 : decode cX8_held 100 = .ok (.aload_n 0, 1) := by decide +kernel
theorem dX8_held_101 : decode cX8_held 101 = .ok (.iload 5, 2) := by decide +kernel
theorem dX8_held_103 : decode cX8_held 103 = .ok (.invokevirtual 329, 3) := by decide +kernel
theorem dX8_held_106 : decode cX8_held 106 = .ok (.ifCond .eq 7, 3) := by decide +kernel
theorem dX8_held_109 : decode cX8_held 109 = .ok (.iconst 0, 1) := by decide +kernel
theorem dX8_held_110 : decode cX8_held 110 = .ok (.goto 4, 3) := by decide +kernel
theorem dX8_held_113 : decode cX8_held 113 = .ok (.iconst 1, 1) := by decide +kernel
theorem dX8_held_114 : decode cX8_held 114 = .ok (.ireturn, 1) := by decide +kernel
theorem dX8_held_115 : decode cX8_held 115 = .ok (.aload_n 0, 1) := by decide +kernel
theorem dX8_held_116 : decode cX8_held 116 = .ok (.getfield 234, 3) := by decide +kernel
theorem dX8_held_119 : decode cX8_held 119 = .ok (.ifCond .ne 7, 3) := by decide +kernel
theorem dX8_held_122 : decode cX8_held 122 = .ok (.iconst 2, 1) := by decide +kernel
theorem dX8_held_123 : decode cX8_held 123 = .ok (.goto 26, 3) := by decide +kernel
theorem dX8_held_126 : decode cX8_held 126 = .ok (.iload 4, 2) := by decide +kernel
theorem dX8_held_128 : decode cX8_held 128 = .ok (.ifCond .ne 7, 3) := by decide +kernel
theorem dX8_held_131 : decode cX8_held 131 = .ok (.iconst 3, 1) := by decide +kernel
theorem dX8_held_132 : decode cX8_held 132 = .ok (.goto 17, 3) := by decide +kernel
theorem dX8_held_135 : decode cX8_held 135 = .ok (.iload 4, 2) := by decide +kernel
theorem dX8_held_137 : decode cX8_held 137 = .ok (.aload_n 0, 1) := by decide +kernel
theorem dX8_held_138 : decode cX8_held 138 = .ok (.getfield 234, 3) := by decide +kernel
theorem dX8_held_141 : decode cX8_held 141 = .ok (.if_icmp .ne 7, 3) := by decide +kernel
theorem dX8_held_144 : decode cX8_held 144 = .ok (.iconst 4, 1) := by decide +kernel
theorem dX8_held_145 : decode cX8_held 145 = .ok (.goto 4, 3) := by decide +kernel
theorem dX8_held_148 : decode cX8_held 148 = .ok (.iconst 5, 1) := by decide +kernel
theorem dX8_held_149 : decode cX8_held 149 = .ok (.ireturn, 1) := by decide +kernel
theorem dX8_heldAll_0 : decode cX8_heldAll 0 = .ok (.iload_n 1, 1) := by decide +kernel
theorem dX8_heldAll_1 : decode cX8_heldAll 1 = .ok (.invokestatic 181, 3) := by decide +kernel
theorem dX8_heldAll_4 : decode cX8_heldAll 4 = .ok (.ifCond .eq 19, 3) := by decide +kernel
theorem dX8_heldAll_7 : decode cX8_heldAll 7 = .ok (.iload_n 2, 1) := by decide +kernel
