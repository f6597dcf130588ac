theorem dX1_readLabel_88 : decode cX1_readLabel 88 = .ok (.iadd, 1) := by decide +kernel
theorem dX1_readLabel_89 : decode cX1_readLabel 89 = .ok (.putfield 35, 3) := by decide +kernel
theorem dX1_readLabel_92 : decode cX1_readLabel 92 = .ok (.aload_n 0, 1) := by decide +kernel
theorem dX1_readLabel_93 : decode cX1_readLabel 93 = .ok (.iconst 1, 1) := by decide +kernel
theorem dX1_readLabel_94 : decode cX1_readLabel 94 = .ok (.invokevirtual 97, 3) := by decide +kernel
theorem dX1_readLabel_97 : decode cX1_readLabel 97 = .ok (.pop, 1) := by decide +kernel
theorem dX1_readLabel_98 : decode cX1_readLabel 98 = .ok (.aload_n 0, 1) := by decide +kernel
theorem dX1_readLabel_99 : decode cX1_readLabel 99 = .ok (.iconst 4, 1) := by decide +kernel
theorem dX1_readLabel_100 : decode cX1_readLabel 100 = .ok (.invokevirtual 97, 3) := by decide +kernel
theorem dX1_readLabel_103 : decode cX1_readLabel 103 = .ok (.pop, 1) := by decide +kernel
theorem dX1_readLabel_104 : decode cX1_readLabel 104 = .ok (.return_, 1) := by decide +kernel
theorem dX1_readAct_0 : decode cX1_readAct 0 = .ok (.aload_n 0, 1) := by decide +kernel
theorem dX1_readAct_1 : decode cX1_readAct 1 = .ok (.aload_n 0, 1) := by decide +kernel
theorem dX1_readAct_2 : decode cX1_readAct 2 = .ok (.getfield 12, 3) := by decide +kernel
theorem dX1_readAct_5 : decode cX1_readAct 5 = .ok (.getfield 105, 3) := by decide +kernel
theorem dX1_readAct_8 : decode cX1_readAct 8 = .ok (.aload_n 0, 1) := by decide +kernel
theorem dX1_readAct_9 : decode cX1_readAct 9 = .ok (.getfield 39, 3) := by decide +kernel
theorem dX1_readAct_12 : decode cX1_readAct 12 = .ok (.laload, 1) := by decide +kernel
theorem dX1_readAct_13 : decode cX1_readAct 13 = .ok (.invokevirtual 112, 3) := by decide +kernel
theorem dX1_readAct_16 : decode cX1_readAct 16 = .ok (.istore_n 1, 1) := by decide +kernel
theorem dX1_readAct_17 : decode cX1_readAct 17 = .ok (.aload_n 0, 1) := by decide +kernel
theorem dX1_readAct_18 : decode cX1_readAct 18 = .ok (.getfield 45, 3) := by decide +kernel
theorem dX1_readAct_21 : decode cX1_readAct 21 = .ok (.getfield 71, 3) := by decide +kernel
theorem dX1_readAct_24 : decode cX1_readAct 24 = .ok (.istore_n 2, 1) := by decide +kernel
theorem dX1_readAct_25 : decode cX1_readAct 25 = .ok (.iload_n 1, 1) := by decide +kernel
theorem dX1_readAct_26 : decode cX1_readAct 26 = .ok (.iconst (-1), 1) := by decide +kernel
theorem dX1_readAct_27 : decode cX1_readAct 27 = .ok (.if_icmp .eq 9, 3) := by decide +kernel
theorem dX1_readAct_30 : decode cX1_readAct 30 = .ok (.iload_n 2, 1) := by decide +kernel
theorem dX1_readAct_31 : decode cX1_readAct 31 = .ok (.bipush 80, 2) := by decide +kernel
theorem dX1_readAct_33 : decode cX1_readAct 33 = .ok (.if_icmp .lt 9, 3) := by decide +kernel
theorem dX1_readAct_36 : decode cX1_readAct 36 = .ok (.aload_n 0, 1) := by decide +kernel
theorem dX1_readAct_37 : decode cX1_readAct 37 = .ok (.iconst 2, 1) := by decide +kernel
theorem dX1_readAct_38 : decode cX1_readAct 38 = .ok (.invokevirtual 101, 3) := by decide +kernel
theorem dX1_readAct_41 : decode cX1_readAct 41 = .ok (.return_, 1) := by decide +kernel
theorem dX1_readAct_42 : decode cX1_readAct 42 = .ok (.aload_n 0, 1) := by decide +kernel
theorem dX1_readAct_43 : decode cX1_readAct 43 = .ok (.iconst 1, 1) := by decide +kernel
theorem dX1_readAct_44 : decode cX1_readAct 44 = .ok (.invokevirtual 97, 3) := by decide +kernel
theorem dX1_readAct_47 : decode cX1_readAct 47 = .ok (.pop, 1) := by decide +kernel
theorem dX1_readAct_48 : decode cX1_readAct 48 = .ok (.aload_n 0, 1) := by decide +kernel
theorem dX1_readAct_49 : decode cX1_readAct 49 = .ok (.getfield 45, 3) := by decide +kernel
theorem dX1_readAct_52 : decode cX1_readAct 52 = .ok (.getfield 115, 3) := by decide +kernel
theorem dX1_readAct_55 : decode cX1_readAct 55 = .ok (.iload_n 2, 1) := by decide +kernel
theorem dX1_readAct_56 : decode cX1_readAct 56 = .ok (.iload_n 1, 1) := by decide +kernel
theorem dX1_readAct_57 : decode cX1_readAct 57 = .ok (.iastore, 1) := by decide +kernel
theorem dX1_readAct_58 : decode cX1_readAct 58 = .ok (.aload_n 0, 1) := by decide +kernel
theorem dX1_readAct_59 : decode cX1_readAct 59 = .ok (.getfield 45, 3) := by decide +kernel
theorem dX1_readAct_62 : decode cX1_readAct 62 = .ok (.getfield 118, 3) := by decide +kernel
theorem dX1_readAct_65 : decode cX1_readAct 65 = .ok (.iload_n 2, 1) := by decide +kernel
theorem dX1_readAct_66 : decode cX1_readAct 66 = .ok (.getstatic 121, 3) := by decide +kernel
theorem dX1_readAct_69 : decode cX1_readAct 69 = .ok (.iload_n 1, 1) := by decide +kernel
theorem dX1_readAct_70 : decode cX1_readAct 70 = .ok (.iaload, 1) := by decide +kernel
theorem dX1_readAct_71 : decode cX1_readAct 71 = .ok (.iconst 1, 1) := by decide +kernel
theorem dX1_readAct_72 : decode cX1_readAct 72 = .ok (.if_icmp .lt 11, 3) := by decide +kernel
theorem dX1_readAct_75 : decode cX1_readAct 75 = .ok (.aload_n 0, 1) := by decide +kernel
theorem dX1_readAct_76 : decode cX1_readAct 76 = .ok (.iconst 2, 1) := by decide +kernel
theorem dX1_readAct_77 : decode cX1_readAct 77 = .ok (.invokevirtual 124, 3) := by decide +kernel
theorem dX1_readAct_80 : decode cX1_readAct 80 = .ok (.goto 4, 3) := by decide +kernel
theorem dX1_readAct_83 : decode cX1_readAct 83 = .ok (.iconst (-1), 1) := by decide +kernel
theorem dX1_readAct_84 : decode cX1_readAct 84 = .ok (.iastore, 1) := by decide +kernel
theorem dX1_readAct_85 : decode cX1_readAct 85 = .ok (.aload_n 0, 1) := by decide +kernel
theorem dX1_readAct_86 : decode cX1_readAct 86 = .ok (.getfield 45, 3) := by decide +kernel
theorem dX1_readAct_89 : decode cX1_readAct 89 = .ok (.getfield 128, 3) := by decide +kernel
theorem dX1_readAct_92 : decode cX1_readAct 92 = .ok (.iload_n 2, 1) := by decide +kernel
theorem dX1_readAct_93 : decode cX1_readAct 93 = .ok (.getstatic 121, 3) := by decide +kernel
theorem dX1_readAct_96 : decode cX1_readAct 96 = .ok (.iload_n 1, 1) := by decide +kernel
theorem dX1_readAct_97 : decode cX1_readAct 97 = .ok (.iaload, 1) := by decide +kernel
theorem dX1_readAct_98 : decode cX1_readAct 98 = .ok (.iconst 2, 1) := by decide +kernel
theorem dX1_readAct_99 : decode cX1_readAct 99 = .ok (.if_icmp .lt 11, 3) := by decide +kernel
theorem dX1_readAct_102 : decode cX1_readAct 102 = .ok (.aload_n 0, 1) := by decide +kernel
theorem dX1_readAct_103 : decode cX1_readAct 103 = .ok (.iconst 2, 1) := by decide +kernel
theorem dX1_readAct_104 : decode cX1_readAct 104 = .ok (.invokevirtual 124, 3) := by decide +kernel
theorem dX1_readAct_107 : decode cX1_readAct 107 = .ok (.goto 4, 3) := by decide +kernel
theorem dX1_readAct_110 : decode cX1_readAct 110 = .ok (.iconst (-1), 1) := by decide +kernel
theorem dX1_readAct_111 : decode cX1_readAct 111 = .ok (.iastore, 1) := by decide +kernel
theorem dX1_readAct_112 : decode cX1_readAct 112 = .ok (.aload_n 0, 1) := by decide +kernel
theorem dX1_readAct_113 : decode cX1_readAct 113 = .ok (.getfield 45, 3) := by decide +kernel
theorem dX1_readAct_116 : decode cX1_readAct 116 = .ok (.getfield 131, 3) := by decide +kernel
theorem dX1_readAct_119 : decode cX1_readAct 119 = .ok (.iload_n 2, 1) := by decide +kernel
theorem dX1_readAct_120 : decode cX1_readAct 120 = .ok (.iload_n 1, 1) := by decide +kernel
theorem dX1_readAct_121 : decode cX1_readAct 121 = .ok (.iconst 1, 1) := by decide +kernel
theorem dX1_readAct_122 : decode cX1_readAct 122 = .ok (.if_icmp .ne 11, 3) := by decide +kernel
theorem dX1_readAct_125 : decode cX1_readAct 125 = .ok (.aload_n 0, 1) := by decide +kernel
theorem dX1_readAct_126 : decode cX1_readAct 126 = .ok (.iconst 3, 1) := by decide +kernel
theorem dX1_readAct_127 : decode cX1_readAct 127 = .ok (.invokevirtual 124, 3) := by decide +kernel
theorem dX1_readAct_130 : decode cX1_readAct 130 = .ok (.goto 4, 3) := by decide +kernel
theorem dX1_readAct_133 : decode cX1_readAct 133 = .ok (.iconst 0, 1) := by decide +kernel
theorem dX1_readAct_134 : decode cX1_readAct 134 = .ok (.iastore, 1) := by decide +kernel
theorem dX1_readAct_135 : decode cX1_readAct 135 = .ok (.iload_n 1, 1) := by decide +kernel
theorem dX1_readAct_136 : decode cX1_readAct 136 = .ok (.invokestatic 134, 3) := by decide +kernel
theorem dX1_readAct_139 : decode cX1_readAct 139 = .ok (.ifCond .eq 8, 3) := by decide +kernel
theorem dX1_readAct_142 : decode cX1_readAct 142 = .ok (.aload_n 0, 1) := by decide +kernel
theorem dX1_readAct_143 : decode cX1_readAct 143 = .ok (.iload_n 2, 1) := by decide +kernel
theorem dX1_readAct_144 : decode cX1_readAct 144 = .ok (.invokevirtual 137, 3) := by decide +kernel
theorem dX1_readAct_147 : decode cX1_readAct 147 = .ok (.aload_n 0, 1) := by decide +kernel
theorem dX1_readAct_148 : decode cX1_readAct 148 = .ok (.getfield 45, 3) := by decide +kernel
theorem dX1_readAct_151 : decode cX1_readAct 151 = .ok (.dup, 1) := by decide +kernel
theorem dX1_readAct_152 : decode cX1_readAct 152 = .ok (.getfield 71, 3) := by decide +kernel
theorem dX1_readAct_155 : decode cX1_readAct 155 = .ok (.iconst 1, 1) := by decide +kernel
theorem dX1_readAct_156 : decode cX1_readAct 156 = .ok (.iadd, 1) := by decide +kernel
theorem dX1_readAct_157 : decode cX1_readAct 157 = .ok (.putfield 71, 3) := by decide +kernel
theorem dX1_readAct_160 : decode cX1_readAct 160 = .ok (.return_, 1) := by decide +kernel
theorem dX1_takeWanted_0 : decode cX1_takeWanted 0 = .ok (.aload_n 0, 1) := by decide +kernel
theorem dX1_takeWanted_1 : decode cX1_takeWanted 1 = .ok (.getfield 29, 3) := by decide +kernel
theorem dX1_takeWanted_4 : decode cX1_takeWanted 4 = .ok (.iload_n 1, 1) := by decide +kernel
theorem dX1_takeWanted_5 : decode cX1_takeWanted 5 = .ok (.aload_n 0, 1) := by decide +kernel
theorem dX1_takeWanted_6 : decode cX1_takeWanted 6 = .ok (.getfield 12, 3) := by decide +kernel
theorem dX1_takeWanted_9 : decode cX1_takeWanted 9 = .ok (.getfield 105, 3) := by decide +kernel
theorem dX1_takeWanted_12 : decode cX1_takeWanted 12 = .ok (.aload_n 0, 1) := by decide +kernel
theorem dX1_takeWanted_13 : decode cX1_takeWanted 13 = .ok (.getfield 39, 3) := by decide +kernel
theorem dX1_takeWanted_16 : decode cX1_takeWanted 16 = .ok (.laload, 1) := by decide +kernel
theorem dX1_takeWanted_17 : decode cX1_takeWanted 17 = .ok (.lastore, 1) := by decide +kernel
theorem dX1_takeWanted_18 : decode cX1_takeWanted 18 = .ok (.aload_n 0, 1) := by decide +kernel
theorem dX1_takeWanted_19 : decode cX1_takeWanted 19 = .ok (.getfield 32, 3) := by decide +kernel
theorem dX1_takeWanted_22 : decode cX1_takeWanted 22 = .ok (.iload_n 1, 1) := by decide +kernel
theorem dX1_takeWanted_23 : decode cX1_takeWanted 23 = .ok (.aload_n 0, 1) := by decide +kernel
theorem dX1_takeWanted_24 : decode cX1_takeWanted 24 = .ok (.getfield 12, 3) := by decide +kernel
theorem dX1_takeWanted_27 : decode cX1_takeWanted 27 = .ok (.getfield 140, 3) := by decide +kernel
theorem dX1_takeWanted_30 : decode cX1_takeWanted 30 = .ok (.aload_n 0, 1) := by decide +kernel
theorem dX1_takeWanted_31 : decode cX1_takeWanted 31 = .ok (.getfield 39, 3) := by decide +kernel
theorem dX1_takeWanted_34 : decode cX1_takeWanted 34 = .ok (.iaload, 1) := by decide +kernel
theorem dX1_takeWanted_35 : decode cX1_takeWanted 35 = .ok (.iastore, 1) := by decide +kernel
theorem dX1_takeWanted_36 : decode cX1_takeWanted 36 = .ok (.aload_n 0, 1) := by decide +kernel
theorem dX1_takeWanted_37 : decode cX1_takeWanted 37 = .ok (.getfield 49, 3) := by decide +kernel
theorem dX1_takeWanted_40 : decode cX1_takeWanted 40 = .ok (.ifCond .ne 23, 3) := by decide +kernel
theorem dX1_takeWanted_43 : decode cX1_takeWanted 43 = .ok (.aload_n 0, 1) := by decide +kernel
theorem dX1_takeWanted_44 : decode cX1_takeWanted 44 = .ok (.invokevirtual 91, 3) := by decide +kernel
theorem dX1_takeWanted_47 : decode cX1_takeWanted 47 = .ok (.iconst 1, 1) := by decide +kernel
theorem dX1_takeWanted_48 : decode cX1_takeWanted 48 = .ok (.if_icmp .ne 15, 3) := by decide +kernel
theorem dX1_takeWanted_51 : decode cX1_takeWanted 51 = .ok (.aload_n 0, 1) := by decide +kernel
theorem dX1_takeWanted_52 : decode cX1_takeWanted 52 = .ok (.invokevirtual 85, 3) := by decide +kernel
theorem dX1_takeWanted_55 : decode cX1_takeWanted 55 = .ok (.ifCond .ne 8, 3) := by decide +kernel
theorem dX1_takeWanted_58 : decode cX1_takeWanted 58 = .ok (.aload_n 0, 1) := by decide +kernel
theorem dX1_takeWanted_59 : decode cX1_takeWanted 59 = .ok (.iconst 2, 1) := by decide +kernel
theorem dX1_takeWanted_60 : decode cX1_takeWanted 60 = .ok (.invokevirtual 101, 3) := by decide +kernel
theorem dX1_takeWanted_63 : decode cX1_takeWanted 63 = .ok (.aload_n 0, 1) := by decide +kernel
theorem dX1_takeWanted_64 : decode cX1_takeWanted 64 = .ok (.iconst 1, 1) := by decide +kernel
theorem dX1_takeWanted_65 : decode cX1_takeWanted 65 = .ok (.invokevirtual 97, 3) := by decide +kernel
theorem dX1_takeWanted_68 : decode cX1_takeWanted 68 = .ok (.pop, 1) := by decide +kernel
theorem dX1_takeWanted_69 : decode cX1_takeWanted 69 = .ok (.return_, 1) := by decide +kernel
theorem dX1_takeValue_0 : decode cX1_takeValue 0 = .ok (.aload_n 0, 1) := by decide +kernel
theorem dX1_takeValue_1 : decode cX1_takeValue 1 = .ok (.getfield 12, 3) := by decide +kernel
theorem dX1_takeValue_4 : decode cX1_takeValue 4 = .ok (.getfield 105, 3) := by decide +kernel
theorem dX1_takeValue_7 : decode cX1_takeValue 7 = .ok (.aload_n 0, 1) := by decide +kernel
theorem dX1_takeValue_8 : decode cX1_takeValue 8 = .ok (.getfield 39, 3) := by decide +kernel
theorem dX1_takeValue_11 : decode cX1_takeValue 11 = .ok (.laload, 1) := by decide +kernel
theorem dX1_takeValue_12 : decode cX1_takeValue 12 = .ok (.l2i, 1) := by decide +kernel
theorem dX1_takeValue_13 : decode cX1_takeValue 13 = .ok (.istore_n 2, 1) := by decide +kernel
theorem dX1_takeValue_14 : decode cX1_takeValue 14 = .ok (.aload_n 0, 1) := by decide +kernel
theorem dX1_takeValue_15 : decode cX1_takeValue 15 = .ok (.iload_n 1, 1) := by decide +kernel
theorem dX1_takeValue_16 : decode cX1_takeValue 16 = .ok (.invokevirtual 97, 3) := by decide +kernel
theorem dX1_takeValue_19 : decode cX1_takeValue 19 = .ok (.ifCond .eq 7, 3) := by decide +kernel
theorem dX1_takeValue_22 : decode cX1_takeValue 22 = .ok (.iload_n 2, 1) := by decide +kernel
theorem dX1_takeValue_23 : decode cX1_takeValue 23 = .ok (.goto 4, 3) := by decide +kernel
theorem dX1_takeValue_26 : decode cX1_takeValue 26 = .ok (.iconst (-1), 1) := by decide +kernel
theorem dX1_takeValue_27 : decode cX1_takeValue 27 = .ok (.ireturn, 1) := by decide +kernel
theorem dX1_take_0 : decode cX1_take 0 = .ok (.aload_n 0, 1) := by decide +kernel
theorem dX1_take_1 : decode cX1_take 1 = .ok (.getfield 49, 3) := by decide +kernel
theorem dX1_take_4 : decode cX1_take 4 = .ok (.ifCond .eq 5, 3) := by decide +kernel
theorem dX1_take_7 : decode cX1_take 7 = .ok (.iconst 0, 1) := by decide +kernel
theorem dX1_take_8 : decode cX1_take 8 = .ok (.ireturn, 1) := by decide +kernel
theorem dX1_take_9 : decode cX1_take 9 = .ok (.aload_n 0, 1) := by decide +kernel
theorem dX1_take_10 : decode cX1_take 10 = .ok (.invokevirtual 91, 3) := by decide +kernel
theorem dX1_take_13 : decode cX1_take 13 = .ok (.iload_n 1, 1) := by decide +kernel
theorem dX1_take_14 : decode cX1_take 14 = .ok (.if_icmp .eq 21, 3) := by decide +kernel
theorem dX1_take_17 : decode cX1_take 17 = .ok (.aload_n 0, 1) := by decide +kernel
theorem dX1_take_18 : decode cX1_take 18 = .ok (.aload_n 0, 1) := by decide +kernel
theorem dX1_take_19 : decode cX1_take 19 = .ok (.invokevirtual 91, 3) := by decide +kernel
theorem dX1_take_22 : decode cX1_take 22 = .ok (.ifCond .ne 7, 3) := by decide +kernel
theorem dX1_take_25 : decode cX1_take 25 = .ok (.iconst 1, 1) := by decide +kernel
theorem dX1_take_26 : decode cX1_take 26 = .ok (.goto 4, 3) := by decide +kernel
theorem dX1_take_29 : decode cX1_take 29 = .ok (.iconst 2, 1) := by decide +kernel
theorem dX1_take_30 : decode cX1_take 30 = .ok (.invokevirtual 101, 3) := by decide +kernel
theorem dX1_take_33 : decode cX1_take 33 = .ok (.iconst 0, 1) := by decide +kernel
theorem dX1_take_34 : decode cX1_take 34 = .ok (.ireturn, 1) := by decide +kernel
theorem dX1_take_35 : decode cX1_take 35 = .ok (.aload_n 0, 1) := by decide +kernel
theorem dX1_take_36 : decode cX1_take 36 = .ok (.getfield 39, 3) := by decide +kernel
theorem dX1_take_39 : decode cX1_take 39 = .ok (.sipush 1000, 3) := by decide +kernel
theorem dX1_take_42 : decode cX1_take 42 = .ok (.if_icmp .ge 13, 3) := by decide +kernel
theorem dX1_take_45 : decode cX1_take 45 = .ok (.aload_n 0, 1) := by decide +kernel
theorem dX1_take_46 : decode cX1_take 46 = .ok (.dup, 1) := by decide +kernel
theorem dX1_take_47 : decode cX1_take 47 = .ok (.getfield 39, 3) := by decide +kernel
theorem dX1_take_50 : decode cX1_take 50 = .ok (.iconst 1, 1) := by decide +kernel
theorem dX1_take_51 : decode cX1_take 51 = .ok (.iadd, 1) := by decide +kernel
theorem dX1_take_52 : decode cX1_take 52 = .ok (.putfield 39, 3) := by decide +kernel
theorem dX1_take_55 : decode cX1_take 55 = .ok (.iconst 1, 1) := by decide +kernel
theorem dX1_take_56 : decode cX1_take 56 = .ok (.ireturn, 1) := by decide +kernel
theorem dX1_findWanted_0 : decode cX1_findWanted 0 = .ok (.iconst 0, 1) := by decide +kernel
theorem dX1_findWanted_1 : decode cX1_findWanted 1 = .ok (.istore_n 1, 1) := by decide +kernel
theorem dX1_findWanted_2 : decode cX1_findWanted 2 = .ok (.iload_n 1, 1) := by decide +kernel
theorem dX1_findWanted_3 : decode cX1_findWanted 3 = .ok (.aload_n 0, 1) := by decide +kernel
theorem dX1_findWanted_4 : decode cX1_findWanted 4 = .ok (.getfield 45, 3) := by decide +kernel
theorem dX1_findWanted_7 : decode cX1_findWanted 7 = .ok (.getfield 71, 3) := by decide +kernel
theorem dX1_findWanted_10 : decode cX1_findWanted 10 = .ok (.if_icmp .ge 80, 3) := by decide +kernel
theorem dX1_findWanted_13 : decode cX1_findWanted 13 = .ok (.aload_n 0, 1) := by decide +kernel
theorem dX1_findWanted_14 : decode cX1_findWanted 14 = .ok (.getfield 49, 3) := by decide +kernel
theorem dX1_findWanted_17 : decode cX1_findWanted 17 = .ok (.ifCond .ne 73, 3) := by decide +kernel
theorem dX1_findWanted_20 : decode cX1_findWanted 20 = .ok (.aload_n 0, 1) := by decide +kernel
theorem dX1_findWanted_21 : decode cX1_findWanted 21 = .ok (.getfield 45, 3) := by decide +kernel
theorem dX1_findWanted_24 : decode cX1_findWanted 24 = .ok (.getfield 115, 3) := by decide +kernel
theorem dX1_findWanted_27 : decode cX1_findWanted 27 = .ok (.iload_n 1, 1) := by decide +kernel
theorem dX1_findWanted_28 : decode cX1_findWanted 28 = .ok (.iaload, 1) := by decide +kernel
theorem dX1_findWanted_29 : decode cX1_findWanted 29 = .ok (.invokestatic 134, 3) := by decide +kernel
theorem dX1_findWanted_32 : decode cX1_findWanted 32 = .ok (.ifCond .eq 52, 3) := by decide +kernel
theorem dX1_findWanted_35 : decode cX1_findWanted 35 = .ok (.aload_n 0, 1) := by decide +kernel
theorem dX1_findWanted_36 : decode cX1_findWanted 36 = .ok (.aload_n 0, 1) := by decide +kernel
theorem dX1_findWanted_37 : decode cX1_findWanted 37 = .ok (.getfield 29, 3) := by decide +kernel
theorem dX1_findWanted_40 : decode cX1_findWanted 40 = .ok (.iload_n 1, 1) := by decide +kernel
theorem dX1_findWanted_41 : decode cX1_findWanted 41 = .ok (.laload, 1) := by decide +kernel
theorem dX1_findWanted_42 : decode cX1_findWanted 42 = .ok (.invokevirtual 108, 3) := by decide +kernel
theorem dX1_findWanted_45 : decode cX1_findWanted 45 = .ok (.istore_n 2, 1) := by decide +kernel
theorem dX1_findWanted_46 : decode cX1_findWanted 46 = .ok (.iload_n 2, 1) := by decide +kernel
theorem dX1_findWanted_47 : decode cX1_findWanted 47 = .ok (.iconst (-1), 1) := by decide +kernel
theorem dX1_findWanted_48 : decode cX1_findWanted 48 = .ok (.if_icmp .ne 21, 3) := by decide +kernel
theorem dX1_findWanted_51 : decode cX1_findWanted 51 = .ok (.aload_n 0, 1) := by decide +kernel
theorem dX1_findWanted_52 : decode cX1_findWanted 52 = .ok (.iconst 4, 1) := by decide +kernel
theorem dX1_findWanted_53 : decode cX1_findWanted 53 = .ok (.putfield 49, 3) := by decide +kernel
theorem dX1_findWanted_56 : decode cX1_findWanted 56 = .ok (.aload_n 0, 1) := by decide +kernel
theorem dX1_findWanted_57 : decode cX1_findWanted 57 = .ok (.aload_n 0, 1) := by decide +kernel
theorem dX1_findWanted_58 : decode cX1_findWanted 58 = .ok (.getfield 32, 3) := by decide +kernel
theorem dX1_findWanted_61 : decode cX1_findWanted 61 = .ok (.iload_n 1, 1) := by decide +kernel
theorem dX1_findWanted_62 : decode cX1_findWanted 62 = .ok (.iaload, 1) := by decide +kernel
theorem dX1_findWanted_63 : decode cX1_findWanted 63 = .ok (.putfield 52, 3) := by decide +kernel
theorem dX1_findWanted_66 : decode cX1_findWanted 66 = .ok (.goto 18, 3) := by decide +kernel
theorem dX1_findWanted_69 : decode cX1_findWanted 69 = .ok (.aload_n 0, 1) := by decide +kernel
theorem dX1_findWanted_70 : decode cX1_findWanted 70 = .ok (.getfield 45, 3) := by decide +kernel
theorem dX1_findWanted_73 : decode cX1_findWanted 73 = .ok (.getfield 131, 3) := by decide +kernel
theorem dX1_findWanted_76 : decode cX1_findWanted 76 = .ok (.iload_n 1, 1) := by decide +kernel
theorem dX1_findWanted_77 : decode cX1_findWanted 77 = .ok (.aload_n 0, 1) := by decide +kernel
theorem dX1_findWanted_78 : decode cX1_findWanted 78 = .ok (.getfield 25, 3) := by decide +kernel
theorem dX1_findWanted_81 : decode cX1_findWanted 81 = .ok (.iload_n 2, 1) := by decide +kernel
theorem dX1_findWanted_82 : decode cX1_findWanted 82 = .ok (.iaload, 1) := by decide +kernel
theorem dX1_findWanted_83 : decode cX1_findWanted 83 = .ok (.iastore, 1) := by decide +kernel
theorem dX1_findWanted_84 : decode cX1_findWanted 84 = .ok (.iinc 1 1, 3) := by decide +kernel
theorem dX1_findWanted_87 : decode cX1_findWanted 87 = .ok (.goto (-85), 3) := by decide +kernel
theorem dX1_findWanted_90 : decode cX1_findWanted 90 = .ok (.return_, 1) := by decide +kernel
theorem dX1_setFault_0 : decode cX1_setFault 0 = .ok (.aload_n 0, 1) := by decide +kernel
theorem dX1_setFault_1 : decode cX1_setFault 1 = .ok (.iload_n 1, 1) := by decide +kernel
theorem dX1_setFault_2 : decode cX1_setFault 2 = .ok (.putfield 49, 3) := by decide +kernel
theorem dX1_setFault_5 : decode cX1_setFault 5 = .ok (.aload_n 0, 1) := by decide +kernel
theorem dX1_setFault_6 : decode cX1_setFault 6 = .ok (.aload_n 0, 1) := by decide +kernel
theorem dX1_setFault_7 : decode cX1_setFault 7 = .ok (.getfield 12, 3) := by decide +kernel
theorem dX1_setFault_10 : decode cX1_setFault 10 = .ok (.getfield 140, 3) := by decide +kernel
theorem dX1_setFault_13 : decode cX1_setFault 13 = .ok (.aload_n 0, 1) := by decide +kernel
theorem dX1_setFault_14 : decode cX1_setFault 14 = .ok (.getfield 39, 3) := by decide +kernel
theorem dX1_setFault_17 : decode cX1_setFault 17 = .ok (.iaload, 1) := by decide +kernel
theorem dX1_setFault_18 : decode cX1_setFault 18 = .ok (.putfield 52, 3) := by decide +kernel
theorem dX1_setFault_21 : decode cX1_setFault 21 = .ok (.return_, 1) := by decide +kernel
theorem dX1_labelIsNext_0 : decode cX1_labelIsNext 0 = .ok (.aload_n 0, 1) := by decide +kernel
theorem dX1_labelIsNext_1 : decode cX1_labelIsNext 1 = .ok (.invokevirtual 91, 3) := by decide +kernel
theorem dX1_labelIsNext_4 : decode cX1_labelIsNext 4 = .ok (.iconst 1, 1) := by decide +kernel
theorem dX1_labelIsNext_5 : decode cX1_labelIsNext 5 = .ok (.if_icmp .ne 27, 3) := by decide +kernel
theorem dX1_labelIsNext_8 : decode cX1_labelIsNext 8 = .ok (.aload_n 0, 1) := by decide +kernel
theorem dX1_labelIsNext_9 : decode cX1_labelIsNext 9 = .ok (.aload_n 0, 1) := by decide +kernel
theorem dX1_labelIsNext_10 : decode cX1_labelIsNext 10 = .ok (.getfield 12, 3) := by decide +kernel
theorem dX1_labelIsNext_13 : decode cX1_labelIsNext 13 = .ok (.getfield 105, 3) := by decide +kernel
theorem dX1_labelIsNext_16 : decode cX1_labelIsNext 16 = .ok (.aload_n 0, 1) := by decide +kernel
theorem dX1_labelIsNext_17 : decode cX1_labelIsNext 17 = .ok (.getfield 39, 3) := by decide +kernel
theorem dX1_labelIsNext_20 : decode cX1_labelIsNext 20 = .ok (.laload, 1) := by decide +kernel
theorem dX1_labelIsNext_21 : decode cX1_labelIsNext 21 = .ok (.invokevirtual 112, 3) := by decide +kernel
theorem dX1_labelIsNext_24 : decode cX1_labelIsNext 24 = .ok (.iconst (-1), 1) := by decide +kernel
theorem dX1_labelIsNext_25 : decode cX1_labelIsNext 25 = .ok (.if_icmp .ne 7, 3) := by decide +kernel
theorem dX1_labelIsNext_28 : decode cX1_labelIsNext 28 = .ok (.iconst 1, 1) := by decide +kernel
theorem dX1_labelIsNext_29 : decode cX1_labelIsNext 29 = .ok (.goto 4, 3) := by decide +kernel
theorem dX1_labelIsNext_32 : decode cX1_labelIsNext 32 = .ok (.iconst 0, 1) := by decide +kernel
theorem dX1_labelIsNext_33 : decode cX1_labelIsNext 33 = .ok (.ireturn, 1) := by decide +kernel
theorem dX1_kindOfToken_0 : decode cX1_kindOfToken 0 = .ok (.aload_n 0, 1) := by decide +kernel
theorem dX1_kindOfToken_1 : decode cX1_kindOfToken 1 = .ok (.getfield 12, 3) := by decide +kernel
theorem dX1_kindOfToken_4 : decode cX1_kindOfToken 4 = .ok (.getfield 143, 3) := by decide +kernel
theorem dX1_kindOfToken_7 : decode cX1_kindOfToken 7 = .ok (.aload_n 0, 1) := by decide +kernel
theorem dX1_kindOfToken_8 : decode cX1_kindOfToken 8 = .ok (.getfield 39, 3) := by decide +kernel
theorem dX1_kindOfToken_11 : decode cX1_kindOfToken 11 = .ok (.iaload, 1) := by decide +kernel
theorem dX1_kindOfToken_12 : decode cX1_kindOfToken 12 = .ok (.ireturn, 1) := by decide +kernel
theorem dX1_kindOfWord_0 : decode cX1_kindOfWord 0 = .ok (.iconst 0, 1) := by decide +kernel
theorem dX1_kindOfWord_1 : decode cX1_kindOfWord 1 = .ok (.istore_n 3, 1) := by decide +kernel
theorem dX1_kindOfWord_2 : decode cX1_kindOfWord 2 = .ok (.iload_n 3, 1) := by decide +kernel
theorem dX1_kindOfWord_3 : decode cX1_kindOfWord 3 = .ok (.bipush 14, 2) := by decide +kernel
theorem dX1_kindOfWord_5 : decode cX1_kindOfWord 5 = .ok (.if_icmp .ge 22, 3) := by decide +kernel
theorem dX1_kindOfWord_8 : decode cX1_kindOfWord 8 = .ok (.aload_n 0, 1) := by decide +kernel
theorem dX1_kindOfWord_9 : decode cX1_kindOfWord 9 = .ok (.getfield 18, 3) := by decide +kernel
theorem dX1_kindOfWord_12 : decode cX1_kindOfWord 12 = .ok (.iload_n 3, 1) := by decide +kernel
theorem dX1_kindOfWord_13 : decode cX1_kindOfWord 13 = .ok (.laload, 1) := by decide +kernel
theorem dX1_kindOfWord_14 : decode cX1_kindOfWord 14 = .ok (.lload_n 1, 1) := by decide +kernel
theorem dX1_kindOfWord_15 : decode cX1_kindOfWord 15 = .ok (.lcmp, 1) := by decide +kernel
theorem dX1_kindOfWord_16 : decode cX1_kindOfWord 16 = .ok (.ifCond .ne 5, 3) := by decide +kernel
theorem dX1_kindOfWord_19 : decode cX1_kindOfWord 19 = .ok (.iload_n 3, 1) := by decide +kernel
theorem dX1_kindOfWord_20 : decode cX1_kindOfWord 20 = .ok (.ireturn, 1) := by decide +kernel
theorem dX1_kindOfWord_21 : decode cX1_kindOfWord 21 = .ok (.iinc 3 1, 3) := by decide +kernel
theorem dX1_kindOfWord_24 : decode cX1_kindOfWord 24 = .ok (.goto (-22), 3) := by decide +kernel
theorem dX1_kindOfWord_27 : decode cX1_kindOfWord 27 = .ok (.iconst (-1), 1) := by decide +kernel
theorem dX1_kindOfWord_28 : decode cX1_kindOfWord 28 = .ok (.ireturn, 1) := by decide +kernel
theorem dX1_labelNumber_0 : decode cX1_labelNumber 0 = .ok (.iconst 0, 1) := by decide +kernel
theorem dX1_labelNumber_1 : decode cX1_labelNumber 1 = .ok (.istore_n 3, 1) := by decide +kernel
theorem dX1_labelNumber_2 : decode cX1_labelNumber 2 = .ok (.iload_n 3, 1) := by decide +kernel
theorem dX1_labelNumber_3 : decode cX1_labelNumber 3 = .ok (.aload_n 0, 1) := by decide +kernel
theorem dX1_labelNumber_4 : decode cX1_labelNumber 4 = .ok (.getfield 35, 3) := by decide +kernel
theorem dX1_labelNumber_7 : decode cX1_labelNumber 7 = .ok (.if_icmp .ge 22, 3) := by decide +kernel
theorem dX1_labelNumber_10 : decode cX1_labelNumber 10 = .ok (.aload_n 0, 1) := by decide +kernel
theorem dX1_labelNumber_11 : decode cX1_labelNumber 11 = .ok (.getfield 22, 3) := by decide +kernel
theorem dX1_labelNumber_14 : decode cX1_labelNumber 14 = .ok (.iload_n 3, 1) := by decide +kernel
theorem dX1_labelNumber_15 : decode cX1_labelNumber 15 = .ok (.laload, 1) := by decide +kernel
theorem dX1_labelNumber_16 : decode cX1_labelNumber 16 = .ok (.lload_n 1, 1) := by decide +kernel
theorem dX1_labelNumber_17 : decode cX1_labelNumber 17 = .ok (.lcmp, 1) := by decide +kernel
theorem dX1_labelNumber_18 : decode cX1_labelNumber 18 = .ok (.ifCond .ne 5, 3) := by decide +kernel
theorem dX1_labelNumber_21 : decode cX1_labelNumber 21 = .ok (.iload_n 3, 1) := by decide +kernel
theorem dX1_labelNumber_22 : decode cX1_labelNumber 22 = .ok (.ireturn, 1) := by decide +kernel
theorem dX1_labelNumber_23 : decode cX1_labelNumber 23 = .ok (.iinc 3 1, 3) := by decide +kernel
theorem dX1_labelNumber_26 : decode cX1_labelNumber 26 = .ok (.goto (-24), 3) := by decide +kernel
theorem dX1_labelNumber_29 : decode cX1_labelNumber 29 = .ok (.iconst (-1), 1) := by decide +kernel
theorem dX1_labelNumber_30 : decode cX1_labelNumber 30 = .ok (.ireturn, 1) := by decide +kernel
theorem dX1_goesToLabel_0 : decode cX1_goesToLabel 0 = .ok (.iload_n 0, 1) := by decide +kernel
theorem dX1_goesToLabel_1 : decode cX1_goesToLabel 1 = .ok (.bipush 8, 2) := by decide +kernel
theorem dX1_goesToLabel_3 : decode cX1_goesToLabel 3 = .ok (.if_icmp .eq 15, 3) := by decide +kernel
theorem dX1_goesToLabel_6 : decode cX1_goesToLabel 6 = .ok (.iload_n 0, 1) := by decide +kernel
theorem dX1_goesToLabel_7 : decode cX1_goesToLabel 7 = .ok (.bipush 9, 2) := by decide +kernel
theorem dX1_goesToLabel_9 : decode cX1_goesToLabel 9 = .ok (.if_icmp .eq 9, 3) := by decide +kernel
theorem dX1_goesToLabel_12 : decode cX1_goesToLabel 12 = .ok (.iload_n 0, 1) := by decide +kernel
theorem dX1_goesToLabel_13 : decode cX1_goesToLabel 13 = .ok (.bipush 10, 2) := by decide +kernel
theorem dX1_goesToLabel_15 : decode cX1_goesToLabel 15 = .ok (.if_icmp .ne 7, 3) := by decide +kernel
theorem dX1_goesToLabel_18 : decode cX1_goesToLabel 18 = .ok (.iconst 1, 1) := by decide +kernel
theorem dX1_goesToLabel_19 : decode cX1_goesToLabel 19 = .ok (.goto 4, 3) := by decide +kernel
theorem dX1_goesToLabel_22 : decode cX1_goesToLabel 22 = .ok (.iconst 0, 1) := by decide +kernel
theorem dX1_goesToLabel_23 : decode cX1_goesToLabel 23 = .ok (.ireturn, 1) := by decide +kernel
theorem dX2_init_0 : decode cX2_init 0 = .ok (.aload_n 0, 1) := by decide +kernel
theorem dX2_init_1 : decode cX2_init 1 = .ok (.invokespecial 3, 3) := by decide +kernel
theorem dX2_init_4 : decode cX2_init 4 = .ok (.aload_n 0, 1) := by decide +kernel
theorem dX2_init_5 : decode cX2_init 5 = .ok (.bipush 80, 2) := by decide +kernel
theorem dX2_init_7 : decode cX2_init 7 = .ok (.newarray .int, 2) := by decide +kernel
theorem dX2_init_9 : decode cX2_init 9 = .ok (.putfield 9, 3) := by decide +kernel
theorem dX2_init_12 : decode cX2_init 12 = .ok (.aload_n 0, 1) := by decide +kernel
theorem dX2_init_13 : decode cX2_init 13 = .ok (.bipush 80, 2) := by decide +kernel
theorem dX2_init_15 : decode cX2_init 15 = .ok (.newarray .int, 2) := by decide +kernel
theorem dX2_init_17 : decode cX2_init 17 = .ok (.putfield 15, 3) := by decide +kernel
theorem dX2_init_20 : decode cX2_init 20 = .ok (.aload_n 0, 1) := by decide +kernel
theorem dX2_init_21 : decode cX2_init 21 = .ok (.bipush 80, 2) := by decide +kernel
theorem dX2_init_23 : decode cX2_init 23 = .ok (.newarray .int, 2) := by decide +kernel
theorem dX2_init_25 : decode cX2_init 25 = .ok (.putfield 18, 3) := by decide +kernel
theorem dX2_init_28 : decode cX2_init 28 = .ok (.aload_n 0, 1) := by decide +kernel
theorem dX2_init_29 : decode cX2_init 29 = .ok (.bipush 80, 2) := by decide +kernel
theorem dX2_init_31 : decode cX2_init 31 = .ok (.newarray .int, 2) := by decide +kernel
theorem dX2_init_33 : decode cX2_init 33 = .ok (.putfield 21, 3) := by decide +kernel
theorem dX2_init_36 : decode cX2_init 36 = .ok (.aload_n 0, 1) := by decide +kernel
theorem dX2_init_37 : decode cX2_init 37 = .ok (.iconst 0, 1) := by decide +kernel
theorem dX2_init_38 : decode cX2_init 38 = .ok (.putfield 24, 3) := by decide +kernel
theorem dX2_init_41 : decode cX2_init 41 = .ok (.return_, 1) := by decide +kernel
theorem dX3_init_0 : decode cX3_init 0 = .ok (.aload_n 0, 1) := by decide +kernel
theorem dX3_init_1 : decode cX3_init 1 = .ok (.invokespecial 3, 3) := by decide +kernel
theorem dX3_init_4 : decode cX3_init 4 = .ok (.aload_n 0, 1) := by decide +kernel
theorem dX3_init_5 : decode cX3_init 5 = .ok (.iconst 0, 1) := by decide +kernel
theorem dX3_init_6 : decode cX3_init 6 = .ok (.putfield 9, 3) := by decide +kernel
theorem dX3_init_9 : decode cX3_init 9 = .ok (.aload_n 0, 1) := by decide +kernel
theorem dX3_init_10 : decode cX3_init 10 = .ok (.iload_n 1, 1) := by decide +kernel
theorem dX3_init_11 : decode cX3_init 11 = .ok (.iconst 0, 1) := by decide +kernel
theorem dX3_init_12 : decode cX3_init 12 = .ok (.invokestatic 15, 3) := by decide +kernel
theorem dX3_init_15 : decode cX3_init 15 = .ok (.newarray .int, 2) := by decide +kernel
theorem dX3_init_17 : decode cX3_init 17 = .ok (.putfield 21, 3) := by decide +kernel
theorem dX3_init_20 : decode cX3_init 20 = .ok (.return_, 1) := by decide +kernel
theorem dX3_byteAt_0 : decode cX3_byteAt 0 = .ok (.iload_n 1, 1) := by decide +kernel
theorem dX3_byteAt_1 : decode cX3_byteAt 1 = .ok (.ifCond .lt 29, 3) := by decide +kernel
theorem dX3_byteAt_4 : decode cX3_byteAt 4 = .ok (.iload_n 1, 1) := by decide +kernel
theorem dX3_byteAt_5 : decode cX3_byteAt 5 = .ok (.aload_n 0, 1) := by decide +kernel
theorem dX3_byteAt_6 : decode cX3_byteAt 6 = .ok (.getfield 9, 3) := by decide +kernel
theorem dX3_byteAt_9 : decode cX3_byteAt 9 = .ok (.if_icmp .ge 21, 3) := by decide +kernel
theorem dX3_byteAt_12 : decode cX3_byteAt 12 = .ok (.iload_n 1, 1) := by decide +kernel
theorem dX3_byteAt_13 : decode cX3_byteAt 13 = .ok (.aload_n 0, 1) := by decide +kernel
theorem dX3_byteAt_14 : decode cX3_byteAt 14 = .ok (.getfield 21, 3) := by decide +kernel
theorem dX3_byteAt_17 : decode cX3_byteAt 17 = .ok (.arraylength, 1) := by decide +kernel
theorem dX3_byteAt_18 : decode cX3_byteAt 18 = .ok (.if_icmp .ge 12, 3) := by decide +kernel
theorem dX3_byteAt_21 : decode cX3_byteAt 21 = .ok (.aload_n 0, 1) := by decide +kernel
theorem dX3_byteAt_22 : decode cX3_byteAt 22 = .ok (.getfield 21, 3) := by decide +kernel
theorem dX3_byteAt_25 : decode cX3_byteAt 25 = .ok (.iload_n 1, 1) := by decide +kernel
theorem dX3_byteAt_26 : decode cX3_byteAt 26 = .ok (.iaload, 1) := by decide +kernel
theorem dX3_byteAt_27 : decode cX3_byteAt 27 = .ok (.goto 4, 3) := by decide +kernel
theorem dX3_byteAt_30 : decode cX3_byteAt 30 = .ok (.iconst (-1), 1) := by decide +kernel
theorem dX3_byteAt_31 : decode cX3_byteAt 31 = .ok (.ireturn, 1) := by decide +kernel
theorem dX3_add_0 : decode cX3_add 0 = .ok (.aload_n 0, 1) := by decide +kernel
theorem dX3_add_1 : decode cX3_add 1 = .ok (.getfield 9, 3) := by decide +kernel
theorem dX3_add_4 : decode cX3_add 4 = .ok (.ifCond .lt 35, 3) := by decide +kernel
theorem dX3_add_7 : decode cX3_add 7 = .ok (.aload_n 0, 1) := by decide +kernel
theorem dX3_add_8 : decode cX3_add 8 = .ok (.getfield 9, 3) := by decide +kernel
theorem dX3_add_11 : decode cX3_add 11 = .ok (.aload_n 0, 1) := by decide +kernel
theorem dX3_add_12 : decode cX3_add 12 = .ok (.getfield 21, 3) := by decide +kernel
theorem dX3_add_15 : decode cX3_add 15 = .ok (.arraylength, 1) := by decide +kernel
theorem dX3_add_16 : decode cX3_add 16 = .ok (.if_icmp .ge 23, 3) := by decide +kernel
theorem dX3_add_19 : decode cX3_add 19 = .ok (.aload_n 0, 1) := by decide +kernel
theorem dX3_add_20 : decode cX3_add 20 = .ok (.getfield 21, 3) := by decide +kernel
theorem dX3_add_23 : decode cX3_add 23 = .ok (.aload_n 0, 1) := by decide +kernel
theorem dX3_add_24 : decode cX3_add 24 = .ok (.getfield 9, 3) := by decide +kernel
theorem dX3_add_27 : decode cX3_add 27 = .ok (.iload_n 1, 1) := by decide +kernel
theorem dX3_add_28 : decode cX3_add 28 = .ok (.iastore, 1) := by decide +kernel
theorem dX3_add_29 : decode cX3_add 29 = .ok (.aload_n 0, 1) := by decide +kernel
theorem dX3_add_30 : decode cX3_add 30 = .ok (.dup, 1) := by decide +kernel
theorem dX3_add_31 : decode cX3_add 31 = .ok (.getfield 9, 3) := by decide +kernel
theorem dX3_add_34 : decode cX3_add 34 = .ok (.iconst 1, 1) := by decide +kernel
theorem dX3_add_35 : decode cX3_add 35 = .ok (.iadd, 1) := by decide +kernel
theorem dX3_add_36 : decode cX3_add 36 = .ok (.putfield 9, 3) := by decide +kernel
theorem dX3_add_39 : decode cX3_add 39 = .ok (.return_, 1) := by decide +kernel
theorem dX3_setByte_0 : decode cX3_setByte 0 = .ok (.iload_n 1, 1) := by decide +kernel
theorem dX3_setByte_1 : decode cX3_setByte 1 = .ok (.ifCond .lt 27, 3) := by decide +kernel
theorem dX3_setByte_4 : decode cX3_setByte 4 = .ok (.iload_n 1, 1) := by decide +kernel
theorem dX3_setByte_5 : decode cX3_setByte 5 = .ok (.aload_n 0, 1) := by decide +kernel
theorem dX3_setByte_6 : decode cX3_setByte 6 = .ok (.getfield 9, 3) := by decide +kernel
theorem dX3_setByte_9 : decode cX3_setByte 9 = .ok (.if_icmp .ge 19, 3) := by decide +kernel
theorem dX3_setByte_12 : decode cX3_setByte 12 = .ok (.iload_n 1, 1) := by decide +kernel
theorem dX3_setByte_13 : decode cX3_setByte 13 = .ok (.aload_n 0, 1) := by decide +kernel
theorem dX3_setByte_14 : decode cX3_setByte 14 = .ok (.getfield 21, 3) := by decide +kernel
theorem dX3_setByte_17 : decode cX3_setByte 17 = .ok (.arraylength, 1) := by decide +kernel
theorem dX3_setByte_18 : decode cX3_setByte 18 = .ok (.if_icmp .ge 10, 3) := by decide +kernel
theorem dX3_setByte_21 : decode cX3_setByte 21 = .ok (.aload_n 0, 1) := by decide +kernel
theorem dX3_setByte_22 : decode cX3_setByte 22 = .ok (.getfield 21, 3) := by decide +kernel
theorem dX3_setByte_25 : decode cX3_setByte 25 = .ok (.iload_n 1, 1) := by decide +kernel
theorem dX3_setByte_26 : decode cX3_setByte 26 = .ok (.iload_n 2, 1) := by decide +kernel
theorem dX3_setByte_27 : decode cX3_setByte 27 = .ok (.iastore, 1) := by decide +kernel
theorem dX3_setByte_28 : decode cX3_setByte 28 = .ok (.return_, 1) := by decide +kernel
theorem dX3_copyFrom_0 : decode cX3_copyFrom 0 = .ok (.aload_n 0, 1) := by decide +kernel
theorem dX3_copyFrom_1 : decode cX3_copyFrom 1 = .ok (.iconst 0, 1) := by decide +kernel
theorem dX3_copyFrom_2 : decode cX3_copyFrom 2 = .ok (.putfield 9, 3) := by decide +kernel
theorem dX3_copyFrom_5 : decode cX3_copyFrom 5 = .ok (.iconst 0, 1) := by decide +kernel
theorem dX3_copyFrom_6 : decode cX3_copyFrom 6 = .ok (.istore_n 2, 1) := by decide +kernel
theorem dX3_copyFrom_7 : decode cX3_copyFrom 7 = .ok (.iload_n 2, 1) := by decide +kernel
theorem dX3_copyFrom_8 : decode cX3_copyFrom 8 = .ok (.aload_n 1, 1) := by decide +kernel
theorem dX3_copyFrom_9 : decode cX3_copyFrom 9 = .ok (.getfield 9, 3) := by decide +kernel
theorem dX3_copyFrom_12 : decode cX3_copyFrom 12 = .ok (.if_icmp .ge 18, 3) := by decide +kernel
theorem dX3_copyFrom_15 : decode cX3_copyFrom 15 = .ok (.aload_n 0, 1) := by decide +kernel
theorem dX3_copyFrom_16 : decode cX3_copyFrom 16 = .ok (.aload_n 1, 1) := by decide +kernel
theorem dX3_copyFrom_17 : decode cX3_copyFrom 17 = .ok (.iload_n 2, 1) := by decide +kernel
theorem dX3_copyFrom_18 : decode cX3_copyFrom 18 = .ok (.invokevirtual 25, 3) := by decide +kernel
theorem dX3_copyFrom_21 : decode cX3_copyFrom 21 = .ok (.invokevirtual 29, 3) := by decide +kernel
theorem dX3_copyFrom_24 : decode cX3_copyFrom 24 = .ok (.iinc 2 1, 3) := by decide +kernel
theorem dX3_copyFrom_27 : decode cX3_copyFrom 27 = .ok (.goto (-20), 3) := by decide +kernel
theorem dX3_copyFrom_30 : decode cX3_copyFrom 30 = .ok (.return_, 1) := by decide +kernel
theorem dX3_copyWithout_0 : decode cX3_copyWithout 0 = .ok (.aload_n 0, 1) := by decide +kernel
theorem dX3_copyWithout_1 : decode cX3_copyWithout 1 = .ok (.iconst 0, 1) := by decide +kernel
theorem dX3_copyWithout_2 : decode cX3_copyWithout 2 = .ok (.putfield 9, 3) := by decide +kernel
theorem dX3_copyWithout_5 : decode cX3_copyWithout 5 = .ok (.iconst 0, 1) := by decide +kernel
theorem dX3_copyWithout_6 : decode cX3_copyWithout 6 = .ok (.istore_n 3, 1) := by decide +kernel
theorem dX3_copyWithout_7 : decode cX3_copyWithout 7 = .ok (.iload_n 3, 1) := by decide +kernel
theorem dX3_copyWithout_8 : decode cX3_copyWithout 8 = .ok (.aload_n 1, 1) := by decide +kernel
theorem dX3_copyWithout_9 : decode cX3_copyWithout 9 = .ok (.getfield 9, 3) := by decide +kernel
theorem dX3_copyWithout_12 : decode cX3_copyWithout 12 = .ok (.if_icmp .ge 23, 3) := by decide +kernel
theorem dX3_copyWithout_15 : decode cX3_copyWithout 15 = .ok (.iload_n 3, 1) := by decide +kernel
theorem dX3_copyWithout_16 : decode cX3_copyWithout 16 = .ok (.iload_n 2, 1) := by decide +kernel
theorem dX3_copyWithout_17 : decode cX3_copyWithout 17 = .ok (.if_icmp .eq 12, 3) := by decide +kernel
theorem dX3_copyWithout_20 : decode cX3_copyWithout 20 = .ok (.aload_n 0, 1) := by decide +kernel
theorem dX3_copyWithout_21 : decode cX3_copyWithout 21 = .ok (.aload_n 1, 1) := by decide +kernel
theorem dX3_copyWithout_22 : decode cX3_copyWithout 22 = .ok (.iload_n 3, 1) := by decide +kernel
theorem dX3_copyWithout_23 : decode cX3_copyWithout 23 = .ok (.invokevirtual 25, 3) := by decide +kernel
theorem dX3_copyWithout_26 : decode cX3_copyWithout 26 = .ok (.invokevirtual 29, 3) := by decide +kernel
theorem dX3_copyWithout_29 : decode cX3_copyWithout 29 = .ok (.iinc 3 1, 3) := by decide +kernel
theorem dX3_copyWithout_32 : decode cX3_copyWithout 32 = .ok (.goto (-25), 3) := by decide +kernel
theorem dX3_copyWithout_35 : decode cX3_copyWithout 35 = .ok (.return_, 1) := by decide +kernel
theorem dX4_init_0 : decode cX4_init 0 = .ok (.aload_n 0, 1) := by decide +kernel
theorem dX4_init_1 : decode cX4_init 1 = .ok (.invokespecial 3, 3) := by decide +kernel
theorem dX4_init_4 : decode cX4_init 4 = .ok (.aload_n 0, 1) := by decide +kernel
theorem dX4_init_5 : decode cX4_init 5 = .ok (.bipush 30, 2) := by decide +kernel
theorem dX4_init_7 : decode cX4_init 7 = .ok (.newarray .int, 2) := by decide +kernel
theorem dX4_init_9 : decode cX4_init 9 = .ok (.putfield 9, 3) := by decide +kernel
theorem dX4_init_12 : decode cX4_init 12 = .ok (.aload_n 0, 1) := by decide +kernel
theorem dX4_init_13 : decode cX4_init 13 = .ok (.bipush 30, 2) := by decide +kernel
theorem dX4_init_15 : decode cX4_init 15 = .ok (.newarray .int, 2) := by decide +kernel
theorem dX4_init_17 : decode cX4_init 17 = .ok (.putfield 15, 3) := by decide +kernel
theorem dX4_init_20 : decode cX4_init 20 = .ok (.aload_n 0, 1) := by decide +kernel
theorem dX4_init_21 : decode cX4_init 21 = .ok (.bipush 30, 2) := by decide +kernel
theorem dX4_init_23 : decode cX4_init 23 = .ok (.newarray .int, 2) := by decide +kernel
theorem dX4_init_25 : decode cX4_init 25 = .ok (.putfield 18, 3) := by decide +kernel
theorem dX4_init_28 : decode cX4_init 28 = .ok (.aload_n 0, 1) := by decide +kernel
theorem dX4_init_29 : decode cX4_init 29 = .ok (.bipush 30, 2) := by decide +kernel
theorem dX4_init_31 : decode cX4_init 31 = .ok (.newarray .int, 2) := by decide +kernel
theorem dX4_init_33 : decode cX4_init 33 = .ok (.putfield 21, 3) := by decide +kernel
theorem dX4_init_36 : decode cX4_init 36 = .ok (.aload_n 0, 1) := by decide +kernel
theorem dX4_init_37 : decode cX4_init 37 = .ok (.bipush 30, 2) := by decide +kernel
theorem dX4_init_39 : decode cX4_init 39 = .ok (.newarray .int, 2) := by decide +kernel
theorem dX4_init_41 : decode cX4_init 41 = .ok (.putfield 24, 3) := by decide +kernel
theorem dX4_init_44 : decode cX4_init 44 = .ok (.aload_n 0, 1) := by decide +kernel
theorem dX4_init_45 : decode cX4_init 45 = .ok (.bipush 30, 2) := by decide +kernel
theorem dX4_init_47 : decode cX4_init 47 = .ok (.newarray .int, 2) := by decide +kernel
theorem dX4_init_49 : decode cX4_init 49 = .ok (.putfield 27, 3) := by decide +kernel
theorem dX4_init_52 : decode cX4_init 52 = .ok (.aload_n 0, 1) := by decide +kernel
theorem dX4_init_53 : decode cX4_init 53 = .ok (.iconst 0, 1) := by decide +kernel
theorem dX4_init_54 : decode cX4_init 54 = .ok (.putfield 30, 3) := by decide +kernel
theorem dX4_init_57 : decode cX4_init 57 = .ok (.return_, 1) := by decide +kernel
theorem dX4_sortIn_0 : decode cX4_sortIn 0 = .ok (.iload_n 1, 1) := by decide +kernel
theorem dX4_sortIn_1 : decode cX4_sortIn 1 = .ok (.ifCond .lt 9, 3) := by decide +kernel
theorem dX4_sortIn_4 : decode cX4_sortIn 4 = .ok (.iload_n 1, 1) := by decide +kernel
theorem dX4_sortIn_5 : decode cX4_sortIn 5 = .ok (.bipush 30, 2) := by decide +kernel
theorem dX4_sortIn_7 : decode cX4_sortIn 7 = .ok (.if_icmp .lt 4, 3) := by decide +kernel
theorem dX4_sortIn_10 : decode cX4_sortIn 10 = .ok (.return_, 1) := by decide +kernel
theorem dX4_sortIn_11 : decode cX4_sortIn 11 = .ok (.aload_n 0, 1) := by decide +kernel
theorem dX4_sortIn_12 : decode cX4_sortIn 12 = .ok (.getfield 27, 3) := by decide +kernel
theorem dX4_sortIn_15 : decode cX4_sortIn 15 = .ok (.iload_n 1, 1) := by decide +kernel
theorem dX4_sortIn_16 : decode cX4_sortIn 16 = .ok (.iconst (-1), 1) := by decide +kernel
theorem dX4_sortIn_17 : decode cX4_sortIn 17 = .ok (.iastore, 1) := by decide +kernel
theorem dX4_sortIn_18 : decode cX4_sortIn 18 = .ok (.aload_n 2, 1) := by decide +kernel
theorem dX4_sortIn_19 : decode cX4_sortIn 19 = .ok (.getfield 34, 3) := by decide +kernel
theorem dX4_sortIn_22 : decode cX4_sortIn 22 = .ok (.ifCond .ne 4, 3) := by decide +kernel
theorem dX4_sortIn_25 : decode cX4_sortIn 25 = .ok (.return_, 1) := by decide +kernel
theorem dX4_sortIn_26 : decode cX4_sortIn 26 = .ok (.aload_n 0, 1) := by decide +kernel
theorem dX4_sortIn_27 : decode cX4_sortIn 27 = .ok (.aload_n 2, 1) := by decide +kernel
theorem dX4_sortIn_28 : decode cX4_sortIn 28 = .ok (.invokevirtual 39, 3) := by decide +kernel
theorem dX4_sortIn_31 : decode cX4_sortIn 31 = .ok (.istore_n 3, 1) := by decide +kernel
theorem dX4_sortIn_32 : decode cX4_sortIn 32 = .ok (.iload_n 3, 1) := by decide +kernel
theorem dX4_sortIn_33 : decode cX4_sortIn 33 = .ok (.iconst (-1), 1) := by decide +kernel
theorem dX4_sortIn_34 : decode cX4_sortIn 34 = .ok (.if_icmp .ne 10, 3) := by decide +kernel
theorem dX4_sortIn_37 : decode cX4_sortIn 37 = .ok (.aload_n 0, 1) := by decide +kernel
theorem dX4_sortIn_38 : decode cX4_sortIn 38 = .ok (.iload_n 1, 1) := by decide +kernel
theorem dX4_sortIn_39 : decode cX4_sortIn 39 = .ok (.aload_n 2, 1) := by decide +kernel
theorem dX4_sortIn_40 : decode cX4_sortIn 40 = .ok (.invokevirtual 43, 3) := by decide +kernel
theorem dX4_sortIn_43 : decode cX4_sortIn 43 = .ok (.istore_n 3, 1) := by decide +kernel
theorem dX4_sortIn_44 : decode cX4_sortIn 44 = .ok (.iload_n 3, 1) := by decide +kernel
theorem dX4_sortIn_45 : decode cX4_sortIn 45 = .ok (.iconst (-1), 1) := by decide +kernel
theorem dX4_sortIn_46 : decode cX4_sortIn 46 = .ok (.if_icmp .eq 20, 3) := by decide +kernel
theorem dX4_sortIn_49 : decode cX4_sortIn 49 = .ok (.aload_n 0, 1) := by decide +kernel
theorem dX4_sortIn_50 : decode cX4_sortIn 50 = .ok (.getfield 15, 3) := by decide +kernel
theorem dX4_sortIn_53 : decode cX4_sortIn 53 = .ok (.iload_n 3, 1) := by decide +kernel
theorem dX4_sortIn_54 : decode cX4_sortIn 54 = .ok (.dup2, 1) := by decide +kernel
theorem dX4_sortIn_55 : decode cX4_sortIn 55 = .ok (.iaload, 1) := by decide +kernel
theorem dX4_sortIn_56 : decode cX4_sortIn 56 = .ok (.iconst 1, 1) := by decide +kernel
theorem dX4_sortIn_57 : decode cX4_sortIn 57 = .ok (.iadd, 1) := by decide +kernel
theorem dX4_sortIn_58 : decode cX4_sortIn 58 = .ok (.iastore, 1) := by decide +kernel
theorem dX4_sortIn_59 : decode cX4_sortIn 59 = .ok (.aload_n 0, 1) := by decide +kernel
theorem dX4_sortIn_60 : decode cX4_sortIn 60 = .ok (.getfield 27, 3) := by decide +kernel
theorem dX4_sortIn_63 : decode cX4_sortIn 63 = .ok (.iload_n 1, 1) := by decide +kernel
theorem dX4_sortIn_64 : decode cX4_sortIn 64 = .ok (.iload_n 3, 1) := by decide +kernel
theorem dX4_sortIn_65 : decode cX4_sortIn 65 = .ok (.iastore, 1) := by decide +kernel
theorem dX4_sortIn_66 : decode cX4_sortIn 66 = .ok (.return_, 1) := by decide +kernel
theorem dX4_heapLike_0 : decode cX4_heapLike 0 = .ok (.iconst 0, 1) := by decide +kernel
theorem dX4_heapLike_1 : decode cX4_heapLike 1 = .ok (.istore_n 2, 1) := by decide +kernel
theorem dX4_heapLike_2 : decode cX4_heapLike 2 = .ok (.iload_n 2, 1) := by decide +kernel
theorem dX4_heapLike_3 : decode cX4_heapLike 3 = .ok (.aload_n 0, 1) := by decide +kernel
theorem dX4_heapLike_4 : decode cX4_heapLike 4 = .ok (.getfield 30, 3) := by decide +kernel
theorem dX4_heapLike_7 : decode cX4_heapLike 7 = .ok (.if_icmp .ge 50, 3) := by decide +kernel
theorem dX4_heapLike_10 : decode cX4_heapLike 10 = .ok (.aload_n 0, 1) := by decide +kernel
theorem dX4_heapLike_11 : decode cX4_heapLike 11 = .ok (.getfield 18, 3) := by decide +kernel
theorem dX4_heapLike_14 : decode cX4_heapLike 14 = .ok (.iload_n 2, 1) := by decide +kernel
theorem dX4_heapLike_15 : decode cX4_heapLike 15 = .ok (.iaload, 1) := by decide +kernel
theorem dX4_heapLike_16 : decode cX4_heapLike 16 = .ok (.aload_n 1, 1) := by decide +kernel
theorem dX4_heapLike_17 : decode cX4_heapLike 17 = .ok (.getfield 34, 3) := by decide +kernel
theorem dX4_heapLike_20 : decode cX4_heapLike 20 = .ok (.if_icmp .ne 31, 3) := by decide +kernel
theorem dX4_heapLike_23 : decode cX4_heapLike 23 = .ok (.aload_n 0, 1) := by decide +kernel
theorem dX4_heapLike_24 : decode cX4_heapLike 24 = .ok (.getfield 21, 3) := by decide +kernel
theorem dX4_heapLike_27 : decode cX4_heapLike 27 = .ok (.iload_n 2, 1) := by decide +kernel
theorem dX4_heapLike_28 : decode cX4_heapLike 28 = .ok (.iaload, 1) := by decide +kernel
theorem dX4_heapLike_29 : decode cX4_heapLike 29 = .ok (.aload_n 1, 1) := by decide +kernel
theorem dX4_heapLike_30 : decode cX4_heapLike 30 = .ok (.getfield 47, 3) := by decide +kernel
theorem dX4_heapLike_33 : decode cX4_heapLike 33 = .ok (.if_icmp .ne 18, 3) := by decide +kernel
theorem dX4_heapLike_36 : decode cX4_heapLike 36 = .ok (.aload_n 0, 1) := by decide +kernel
theorem dX4_heapLike_37 : decode cX4_heapLike 37 = .ok (.getfield 24, 3) := by decide +kernel
theorem dX4_heapLike_40 : decode cX4_heapLike 40 = .ok (.iload_n 2, 1) := by decide +kernel
theorem dX4_heapLike_41 : decode cX4_heapLike 41 = .ok (.iaload, 1) := by decide +kernel
theorem dX4_heapLike_42 : decode cX4_heapLike 42 = .ok (.aload_n 1, 1) := by decide +kernel
theorem dX4_heapLike_43 : decode cX4_heapLike 43 = .ok (.getfield 50, 3) := by decide +kernel
theorem dX4_heapLike_46 : decode cX4_heapLike 46 = .ok (.if_icmp .ne 5, 3) := by decide +kernel
theorem dX4_heapLike_49 : decode cX4_heapLike 49 = .ok (.iload_n 2, 1) := by decide +kernel
theorem dX4_heapLike_50 : decode cX4_heapLike 50 = .ok (.ireturn, 1) := by decide +kernel
theorem dX4_heapLike_51 : decode cX4_heapLike 51 = .ok (.iinc 2 1, 3) := by decide +kernel
theorem dX4_heapLike_54 : decode cX4_heapLike 54 = .ok (.goto (-52), 3) := by decide +kernel
theorem dX4_heapLike_57 : decode cX4_heapLike 57 = .ok (.iconst (-1), 1) := by decide +kernel
theorem dX4_heapLike_58 : decode cX4_heapLike 58 = .ok (.ireturn, 1) := by decide +kernel
theorem dX4_newHeap_0 : decode cX4_newHeap 0 = .ok (.aload_n 0, 1) := by decide +kernel
theorem dX4_newHeap_1 : decode cX4_newHeap 1 = .ok (.getfield 30, 3) := by decide +kernel
theorem dX4_newHeap_4 : decode cX4_newHeap 4 = .ok (.bipush 30, 2) := by decide +kernel
theorem dX4_newHeap_6 : decode cX4_newHeap 6 = .ok (.if_icmp .lt 5, 3) := by decide +kernel
theorem dX4_newHeap_9 : decode cX4_newHeap 9 = .ok (.iconst (-1), 1) := by decide +kernel
theorem dX4_newHeap_10 : decode cX4_newHeap 10 = .ok (.ireturn, 1) := by decide +kernel
theorem dX4_newHeap_11 : decode cX4_newHeap 11 = .ok (.aload_n 0, 1) := by decide +kernel
theorem dX4_newHeap_12 : decode cX4_newHeap 12 = .ok (.getfield 9, 3) := by decide +kernel
theorem dX4_newHeap_15 : decode cX4_newHeap 15 = .ok (.aload_n 0, 1) := by decide +kernel
theorem dX4_newHeap_16 : decode cX4_newHeap 16 = .ok (.getfield 30, 3) := by decide +kernel
theorem dX4_newHeap_19 : decode cX4_newHeap 19 = .ok (.iload_n 1, 1) := by decide +kernel
theorem dX4_newHeap_20 : decode cX4_newHeap 20 = .ok (.iastore, 1) := by decide +kernel
theorem dX4_newHeap_21 : decode cX4_newHeap 21 = .ok (.aload_n 0, 1) := by decide +kernel
theorem dX4_newHeap_22 : decode cX4_newHeap 22 = .ok (.getfield 15, 3) := by decide +kernel
theorem dX4_newHeap_25 : decode cX4_newHeap 25 = .ok (.aload_n 0, 1) := by decide +kernel
theorem dX4_newHeap_26 : decode cX4_newHeap 26 = .ok (.getfield 30, 3) := by decide +kernel
theorem dX4_newHeap_29 : decode cX4_newHeap 29 = .ok (.iconst 0, 1) := by decide +kernel
theorem dX4_newHeap_30 : decode cX4_newHeap 30 = .ok (.iastore, 1) := by decide +kernel
theorem dX4_newHeap_31 : decode cX4_newHeap 31 = .ok (.aload_n 0, 1) := by decide +kernel
theorem dX4_newHeap_32 : decode cX4_newHeap 32 = .ok (.getfield 18, 3) := by decide +kernel
theorem dX4_newHeap_35 : decode cX4_newHeap 35 = .ok (.aload_n 0, 1) := by decide +kernel
theorem dX4_newHeap_36 : decode cX4_newHeap 36 = .ok (.getfield 30, 3) := by decide +kernel
theorem dX4_newHeap_39 : decode cX4_newHeap 39 = .ok (.aload_n 2, 1) := by decide +kernel
theorem dX4_newHeap_40 : decode cX4_newHeap 40 = .ok (.getfield 34, 3) := by decide +kernel
theorem dX4_newHeap_43 : decode cX4_newHeap 43 = .ok (.iastore, 1) := by decide +kernel
theorem dX4_newHeap_44 : decode cX4_newHeap 44 = .ok (.aload_n 0, 1) := by decide +kernel
theorem dX4_newHeap_45 : decode cX4_newHeap 45 = .ok (.getfield 21, 3) := by decide +kernel
theorem dX4_newHeap_48 : decode cX4_newHeap 48 = .ok (.aload_n 0, 1) := by decide +kernel
theorem dX4_newHeap_49 : decode cX4_newHeap 49 = .ok (.getfield 30, 3) := by decide +kernel
theorem dX4_newHeap_52 : decode cX4_newHeap 52 = .ok (.aload_n 2, 1) := by decide +kernel
theorem dX4_newHeap_53 : decode cX4_newHeap 53 = .ok (.getfield 47, 3) := by decide +kernel
theorem dX4_newHeap_56 : decode cX4_newHeap 56 = .ok (.iastore, 1) := by decide +kernel
theorem dX4_newHeap_57 : decode cX4_newHeap 57 = .ok (.aload_n 0, 1) := by decide +kernel
theorem dX4_newHeap_58 : decode cX4_newHeap 58 = .ok (.getfield 24, 3) := by decide +kernel
theorem dX4_newHeap_61 : decode cX4_newHeap 61 = .ok (.aload_n 0, 1) := by decide +kernel
theorem dX4_newHeap_62 : decode cX4_newHeap 62 = .ok (.getfield 30, 3) := by decide +kernel
theorem dX4_newHeap_65 : decode cX4_newHeap 65 = .ok (.aload_n 2, 1) := by decide +kernel
theorem dX4_newHeap_66 : decode cX4_newHeap 66 = .ok (.getfield 50, 3) := by decide +kernel
theorem dX4_newHeap_69 : decode cX4_newHeap 69 = .ok (.iastore, 1) := by decide +kernel
theorem dX4_newHeap_70 : decode cX4_newHeap 70 = .ok (.aload_n 0, 1) := by decide +kernel
theorem dX4_newHeap_71 : decode cX4_newHeap 71 = .ok (.dup, 1) := by decide +kernel
theorem dX4_newHeap_72 : decode cX4_newHeap 72 = .ok (.getfield 30, 3) := by decide +kernel
theorem dX4_newHeap_75 : decode cX4_newHeap 75 = .ok (.iconst 1, 1) := by decide +kernel
theorem dX4_newHeap_76 : decode cX4_newHeap 76 = .ok (.iadd, 1) := by decide +kernel
theorem dX4_newHeap_77 : decode cX4_newHeap 77 = .ok (.putfield 30, 3) := by decide +kernel
theorem dX4_newHeap_80 : decode cX4_newHeap 80 = .ok (.aload_n 0, 1) := by decide +kernel
theorem dX4_newHeap_81 : decode cX4_newHeap 81 = .ok (.getfield 30, 3) := by decide +kernel
theorem dX4_newHeap_84 : decode cX4_newHeap 84 = .ok (.iconst 1, 1) := by decide +kernel
theorem dX4_newHeap_85 : decode cX4_newHeap 85 = .ok (.isub, 1) := by decide +kernel
theorem dX4_newHeap_86 : decode cX4_newHeap 86 = .ok (.ireturn, 1) := by decide +kernel
theorem dX5_init_0 : decode cX5_init 0 = .ok (.aload_n 0, 1) := by decide +kernel
theorem dX5_init_1 : decode cX5_init 1 = .ok (.invokespecial 3, 3) := by decide +kernel
theorem dX5_init_4 : decode cX5_init 4 = .ok (.aload_n 0, 1) := by decide +kernel
theorem dX5_init_5 : decode cX5_init 5 = .ok (.sipush 1001, 3) := by decide +kernel
theorem dX5_init_8 : decode cX5_init 8 = .ok (.newarray .int, 2) := by decide +kernel
theorem dX5_init_10 : decode cX5_init 10 = .ok (.putfield 9, 3) := by decide +kernel
theorem dX5_init_13 : decode cX5_init 13 = .ok (.aload_n 0, 1) := by decide +kernel
theorem dX5_init_14 : decode cX5_init 14 = .ok (.sipush 1001, 3) := by decide +kernel
theorem dX5_init_17 : decode cX5_init 17 = .ok (.newarray .int, 2) := by decide +kernel
theorem dX5_init_19 : decode cX5_init 19 = .ok (.putfield 15, 3) := by decide +kernel
theorem dX5_init_22 : decode cX5_init 22 = .ok (.aload_n 0, 1) := by decide +kernel
theorem dX5_init_23 : decode cX5_init 23 = .ok (.sipush 1001, 3) := by decide +kernel
theorem dX5_init_26 : decode cX5_init 26 = .ok (.newarray .long, 2) := by decide +kernel
theorem dX5_init_28 : decode cX5_init 28 = .ok (.putfield 18, 3) := by decide +kernel
theorem dX5_init_31 : decode cX5_init 31 = .ok (.aload_n 0, 1) := by decide +kernel
theorem dX5_init_32 : decode cX5_init 32 = .ok (.iconst 0, 1) := by decide +kernel
theorem dX5_init_33 : decode cX5_init 33 = .ok (.putfield 22, 3) := by decide +kernel
theorem dX5_init_36 : decode cX5_init 36 = .ok (.return_, 1) := by decide +kernel
theorem dX5_readFrom_0 : decode cX5_readFrom 0 = .ok (.aload_n 0, 1) := by decide +kernel
theorem dX5_readFrom_1 : decode cX5_readFrom 1 = .ok (.iconst 0, 1) := by decide +kernel
theorem dX5_readFrom_2 : decode cX5_readFrom 2 = .ok (.putfield 22, 3) := by decide +kernel
theorem dX5_readFrom_5 : decode cX5_readFrom 5 = .ok (.iconst 1, 1) := by decide +kernel
theorem dX5_readFrom_6 : decode cX5_readFrom 6 = .ok (.istore_n 2, 1) := by decide +kernel
theorem dX5_readFrom_7 : decode cX5_readFrom 7 = .ok (.iconst 0, 1) := by decide +kernel
theorem dX5_readFrom_8 : decode cX5_readFrom 8 = .ok (.istore_n 3, 1) := by decide +kernel
theorem dX5_readFrom_9 : decode cX5_readFrom 9 = .ok (.iload_n 3, 1) := by decide +kernel
theorem dX5_readFrom_10 : decode cX5_readFrom 10 = .ok (.sipush 1000, 3) := by decide +kernel
theorem dX5_readFrom_13 : decode cX5_readFrom 13 = .ok (.if_icmp .gt 66, 3) := by decide +kernel
theorem dX5_readFrom_16 : decode cX5_readFrom 16 = .ok (.iload_n 2, 1) := by decide +kernel
theorem dX5_readFrom_17 : decode cX5_readFrom 17 = .ok (.ifCond .eq 62, 3) := by decide +kernel
theorem dX5_readFrom_20 : decode cX5_readFrom 20 = .ok (.aload_n 0, 1) := by decide +kernel
theorem dX5_readFrom_21 : decode cX5_readFrom 21 = .ok (.aload_n 1, 1) := by decide +kernel
theorem dX5_readFrom_22 : decode cX5_readFrom 22 = .ok (.invokevirtual 26, 3) := by decide +kernel
theorem dX5_readFrom_25 : decode cX5_readFrom 25 = .ok (.aload_n 0, 1) := by decide +kernel
theorem dX5_readFrom_26 : decode cX5_readFrom 26 = .ok (.getfield 15, 3) := by decide +kernel
theorem dX5_readFrom_29 : decode cX5_readFrom 29 = .ok (.iload_n 3, 1) := by decide +kernel
theorem dX5_readFrom_30 : decode cX5_readFrom 30 = .ok (.aload_n 0, 1) := by decide +kernel
theorem dX5_readFrom_31 : decode cX5_readFrom 31 = .ok (.getfield 22, 3) := by decide +kernel
theorem dX5_readFrom_34 : decode cX5_readFrom 34 = .ok (.iastore, 1) := by decide +kernel
theorem dX5_readFrom_35 : decode cX5_readFrom 35 = .ok (.aload_n 0, 1) := by decide +kernel
theorem dX5_readFrom_36 : decode cX5_readFrom 36 = .ok (.getfield 9, 3) := by decide +kernel
theorem dX5_readFrom_39 : decode cX5_readFrom 39 = .ok (.iload_n 3, 1) := by decide +kernel
theorem dX5_readFrom_40 : decode cX5_readFrom 40 = .ok (.aload_n 0, 1) := by decide +kernel
theorem dX5_readFrom_41 : decode cX5_readFrom 41 = .ok (.aload_n 1, 1) := by decide +kernel
theorem dX5_readFrom_42 : decode cX5_readFrom 42 = .ok (.iload_n 3, 1) := by decide +kernel
theorem dX5_readFrom_43 : decode cX5_readFrom 43 = .ok (.invokevirtual 30, 3) := by decide +kernel
theorem dX5_readFrom_46 : decode cX5_readFrom 46 = .ok (.iastore, 1) := by decide +kernel
theorem dX5_readFrom_47 : decode cX5_readFrom 47 = .ok (.aload_n 0, 1) := by decide +kernel
theorem dX5_readFrom_48 : decode cX5_readFrom 48 = .ok (.getfield 9, 3) := by decide +kernel
theorem dX5_readFrom_51 : decode cX5_readFrom 51 = .ok (.iload_n 3, 1) := by decide +kernel
theorem dX5_readFrom_52 : decode cX5_readFrom 52 = .ok (.iaload, 1) := by decide +kernel
theorem dX5_readFrom_53 : decode cX5_readFrom 53 = .ok (.ifCond .eq 18, 3) := by decide +kernel
theorem dX5_readFrom_56 : decode cX5_readFrom 56 = .ok (.aload_n 0, 1) := by decide +kernel
theorem dX5_readFrom_57 : decode cX5_readFrom 57 = .ok (.getfield 9, 3) := by decide +kernel
theorem dX5_readFrom_60 : decode cX5_readFrom 60 = .ok (.iload_n 3, 1) := by decide +kernel
theorem dX5_readFrom_61 : decode cX5_readFrom 61 = .ok (.iaload, 1) := by decide +kernel
theorem dX5_readFrom_62 : decode cX5_readFrom 62 = .ok (.bipush 6, 2) := by decide +kernel
theorem dX5_readFrom_64 : decode cX5_readFrom 64 = .ok (.if_icmp .eq 7, 3) := by decide +kernel
theorem dX5_readFrom_67 : decode cX5_readFrom 67 = .ok (.iconst 1, 1) := by decide +kernel
theorem dX5_readFrom_68 : decode cX5_readFrom 68 = .ok (.goto 4, 3) := by decide +kernel
theorem dX5_readFrom_71 : decode cX5_readFrom 71 = .ok (.iconst 0, 1) := by decide +kernel
theorem dX5_readFrom_72 : decode cX5_readFrom 72 = .ok (.istore_n 2, 1) := by decide +kernel
theorem dX5_readFrom_73 : decode cX5_readFrom 73 = .ok (.iinc 3 1, 3) := by decide +kernel
theorem dX5_readFrom_76 : decode cX5_readFrom 76 = .ok (.goto (-67), 3) := by decide +kernel
theorem dX5_readFrom_79 : decode cX5_readFrom 79 = .ok (.return_, 1) := by decide +kernel
theorem dX5_skipBlanks_0 : decode cX5_skipBlanks 0 = .ok (.aload_n 0, 1) := by decide +kernel
theorem dX5_skipBlanks_1 : decode cX5_skipBlanks 1 = .ok (.getfield 22, 3) := by decide +kernel
theorem dX5_skipBlanks_4 : decode cX5_skipBlanks 4 = .ok (.sipush 1000, 3) := by decide +kernel
theorem dX5_skipBlanks_7 : decode cX5_skipBlanks 7 = .ok (.if_icmp .ge 29, 3) := by decide +kernel
theorem dX5_skipBlanks_10 : decode cX5_skipBlanks 10 = .ok (.aload_n 1, 1) := by decide +kernel
theorem dX5_skipBlanks_11 : decode cX5_skipBlanks 11 = .ok (.aload_n 0, 1) := by decide +kernel
theorem dX5_skipBlanks_12 : decode cX5_skipBlanks 12 = .ok (.getfield 22, 3) := by decide +kernel
theorem dX5_skipBlanks_15 : decode cX5_skipBlanks 15 = .ok (.invokevirtual 34, 3) := by decide +kernel
theorem dX5_skipBlanks_18 : decode cX5_skipBlanks 18 = .ok (.bipush 32, 2) := by decide +kernel
theorem dX5_skipBlanks_20 : decode cX5_skipBlanks 20 = .ok (.if_icmp .ne 16, 3) := by decide +kernel
theorem dX5_skipBlanks_23 : decode cX5_skipBlanks 23 = .ok (.aload_n 0, 1) := by decide +kernel
theorem dX5_skipBlanks_24 : decode cX5_skipBlanks 24 = .ok (.dup, 1) := by decide +kernel
theorem dX5_skipBlanks_25 : decode cX5_skipBlanks 25 = .ok (.getfield 22, 3) := by decide +kernel
theorem dX5_skipBlanks_28 : decode cX5_skipBlanks 28 = .ok (.iconst 1, 1) := by decide +kernel
theorem dX5_skipBlanks_29 : decode cX5_skipBlanks 29 = .ok (.iadd, 1) := by decide +kernel
theorem dX5_skipBlanks_30 : decode cX5_skipBlanks 30 = .ok (.putfield 22, 3) := by decide +kernel
theorem dX5_skipBlanks_33 : decode cX5_skipBlanks 33 = .ok (.goto (-33), 3) := by decide +kernel
theorem dX5_skipBlanks_36 : decode cX5_skipBlanks 36 = .ok (.return_, 1) := by decide +kernel
theorem dX5_readKind_0 : decode cX5_readKind 0 = .ok (.aload_n 1, 1) := by decide +kernel
theorem dX5_readKind_1 : decode cX5_readKind 1 = .ok (.aload_n 0, 1) := by decide +kernel
theorem dX5_readKind_2 : decode cX5_readKind 2 = .ok (.getfield 22, 3) := by decide +kernel
theorem dX5_readKind_5 : decode cX5_readKind 5 = .ok (.invokevirtual 34, 3) := by decide +kernel
theorem dX5_readKind_8 : decode cX5_readKind 8 = .ok (.istore_n 3, 1) := by decide +kernel
theorem dX5_readKind_9 : decode cX5_readKind 9 = .ok (.iload_n 3, 1) := by decide +kernel
theorem dX5_readKind_10 : decode cX5_readKind 10 = .ok (.iconst (-1), 1) := by decide +kernel
theorem dX5_readKind_11 : decode cX5_readKind 11 = .ok (.if_icmp .ne 6, 3) := by decide +kernel
theorem dX5_readKind_14 : decode cX5_readKind 14 = .ok (.bipush 6, 2) := by decide +kernel
theorem dX5_readKind_16 : decode cX5_readKind 16 = .ok (.ireturn, 1) := by decide +kernel
theorem dX5_readKind_17 : decode cX5_readKind 17 = .ok (.aload_n 0, 1) := by decide +kernel
theorem dX5_readKind_18 : decode cX5_readKind 18 = .ok (.aload_n 1, 1) := by decide +kernel
theorem dX5_readKind_19 : decode cX5_readKind 19 = .ok (.invokevirtual 40, 3) := by decide +kernel
theorem dX5_readKind_22 : decode cX5_readKind 22 = .ok (.ifCond .eq 35, 3) := by decide +kernel
theorem dX5_readKind_25 : decode cX5_readKind 25 = .ok (.aload_n 0, 1) := by decide +kernel
theorem dX5_readKind_26 : decode cX5_readKind 26 = .ok (.getfield 18, 3) := by decide +kernel
theorem dX5_readKind_29 : decode cX5_readKind 29 = .ok (.iload_n 2, 1) := by decide +kernel
theorem dX5_readKind_30 : decode cX5_readKind 30 = .ok (.aload_n 1, 1) := by decide +kernel
theorem dX5_readKind_31 : decode cX5_readKind 31 = .ok (.aload_n 0, 1) := by decide +kernel
theorem dX5_readKind_32 : decode cX5_readKind 32 = .ok (.getfield 22, 3) := by decide +kernel
theorem dX5_readKind_35 : decode cX5_readKind 35 = .ok (.iconst 1, 1) := by decide +kernel
theorem dX5_readKind_36 : decode cX5_readKind 36 = .ok (.iadd, 1) := by decide +kernel
theorem dX5_readKind_37 : decode cX5_readKind 37 = .ok (.invokevirtual 34, 3) := by decide +kernel
theorem dX5_readKind_40 : decode cX5_readKind 40 = .ok (.bipush 48, 2) := by decide +kernel
theorem dX5_readKind_42 : decode cX5_readKind 42 = .ok (.isub, 1) := by decide +kernel
theorem dX5_readKind_43 : decode cX5_readKind 43 = .ok (.i2l, 1) := by decide +kernel
theorem dX5_readKind_44 : decode cX5_readKind 44 = .ok (.lastore, 1) := by decide +kernel
theorem dX5_readKind_45 : decode cX5_readKind 45 = .ok (.aload_n 0, 1) := by decide +kernel
theorem dX5_readKind_46 : decode cX5_readKind 46 = .ok (.dup, 1) := by decide +kernel
theorem dX5_readKind_47 : decode cX5_readKind 47 = .ok (.getfield 22, 3) := by decide +kernel
theorem dX5_readKind_50 : decode cX5_readKind 50 = .ok (.iconst 2, 1) := by decide +kernel
theorem dX5_readKind_51 : decode cX5_readKind 51 = .ok (.iadd, 1) := by decide +kernel
theorem dX5_readKind_52 : decode cX5_readKind 52 = .ok (.putfield 22, 3) := by decide +kernel
theorem dX5_readKind_55 : decode cX5_readKind 55 = .ok (.iconst 2, 1) := by decide +kernel
theorem dX5_readKind_56 : decode cX5_readKind 56 = .ok (.ireturn, 1) := by decide +kernel
theorem dX5_readKind_57 : decode cX5_readKind 57 = .ok (.iload_n 3, 1) := by decide +kernel
theorem dX5_readKind_58 : decode cX5_readKind 58 = .ok (.invokestatic 44, 3) := by decide +kernel
theorem dX5_readKind_61 : decode cX5_readKind 61 = .ok (.ifCond .eq 10, 3) := by decide +kernel
theorem dX5_readKind_64 : decode cX5_readKind 64 = .ok (.aload_n 0, 1) := by decide +kernel
theorem dX5_readKind_65 : decode cX5_readKind 65 = .ok (.aload_n 1, 1) := by decide +kernel
theorem dX5_readKind_66 : decode cX5_readKind 66 = .ok (.iload_n 2, 1) := by decide +kernel
theorem dX5_readKind_67 : decode cX5_readKind 67 = .ok (.invokevirtual 48, 3) := by decide +kernel
theorem dX5_readKind_70 : decode cX5_readKind 70 = .ok (.ireturn, 1) := by decide +kernel
theorem dX5_readKind_71 : decode cX5_readKind 71 = .ok (.iload_n 3, 1) := by decide +kernel
theorem dX5_readKind_72 : decode cX5_readKind 72 = .ok (.invokestatic 51, 3) := by decide +kernel
theorem dX5_readKind_75 : decode cX5_readKind 75 = .ok (.ifCond .ne 9, 3) := by decide +kernel
theorem dX5_readKind_78 : decode cX5_readKind 78 = .ok (.iload_n 3, 1) := by decide +kernel
theorem dX5_readKind_79 : decode cX5_readKind 79 = .ok (.bipush 45, 2) := by decide +kernel
theorem dX5_readKind_81 : decode cX5_readKind 81 = .ok (.if_icmp .ne 10, 3) := by decide +kernel
theorem dX5_readKind_84 : decode cX5_readKind 84 = .ok (.aload_n 0, 1) := by decide +kernel
theorem dX5_readKind_85 : decode cX5_readKind 85 = .ok (.aload_n 1, 1) := by decide +kernel
theorem dX5_readKind_86 : decode cX5_readKind 86 = .ok (.iload_n 2, 1) := by decide +kernel
theorem dX5_readKind_87 : decode cX5_readKind 87 = .ok (.invokevirtual 54, 3) := by decide +kernel
theorem dX5_readKind_90 : decode cX5_readKind 90 = .ok (.ireturn, 1) := by decide +kernel
theorem dX5_readKind_91 : decode cX5_readKind 91 = .ok (.aload_n 0, 1) := by decide +kernel
theorem dX5_readKind_92 : decode cX5_readKind 92 = .ok (.dup, 1) := by decide +kernel
theorem dX5_readKind_93 : decode cX5_readKind 93 = .ok (.getfield 22, 3) := by decide +kernel
theorem dX5_readKind_96 : decode cX5_readKind 96 = .ok (.iconst 1, 1) := by decide +kernel
theorem dX5_readKind_97 : decode cX5_readKind 97 = .ok (.iadd, 1) := by decide +kernel
theorem dX5_readKind_98 : decode cX5_readKind 98 = .ok (.putfield 22, 3) := by decide +kernel
theorem dX5_readKind_101 : decode cX5_readKind 101 = .ok (.iload_n 3, 1) := by decide +kernel
theorem dX5_readKind_102 : decode cX5_readKind 102 = .ok (.bipush 10, 2) := by decide +kernel
theorem dX5_readKind_104 : decode cX5_readKind 104 = .ok (.if_icmp .ne 7, 3) := by decide +kernel
theorem dX5_readKind_107 : decode cX5_readKind 107 = .ok (.iconst 5, 1) := by decide +kernel
theorem dX5_readKind_108 : decode cX5_readKind 108 = .ok (.goto 14, 3) := by decide +kernel
theorem dX5_readKind_111 : decode cX5_readKind 111 = .ok (.iload_n 3, 1) := by decide +kernel
theorem dX5_readKind_112 : decode cX5_readKind 112 = .ok (.bipush 58, 2) := by decide +kernel
theorem dX5_readKind_114 : decode cX5_readKind 114 = .ok (.if_icmp .ne 7, 3) := by decide +kernel
theorem dX5_readKind_117 : decode cX5_readKind 117 = .ok (.iconst 4, 1) := by decide +kernel
theorem dX5_readKind_118 : decode cX5_readKind 118 = .ok (.goto 4, 3) := by decide +kernel
theorem dX5_readKind_121 : decode cX5_readKind 121 = .ok (.iconst 0, 1) := by decide +kernel
theorem dX5_readKind_122 : decode cX5_readKind 122 = .ok (.ireturn, 1) := by decide +kernel
theorem dX5_isRegister_0 : decode cX5_isRegister 0 = .ok (.aload_n 1, 1) := by decide +kernel
theorem dX5_isRegister_1 : decode cX5_isRegister 1 = .ok (.aload_n 0, 1) := by decide +kernel
theorem dX5_isRegister_2 : decode cX5_isRegister 2 = .ok (.getfield 22, 3) := by decide +kernel
theorem dX5_isRegister_5 : decode cX5_isRegister 5 = .ok (.iconst 1, 1) := by decide +kernel
theorem dX5_isRegister_6 : decode cX5_isRegister 6 = .ok (.iadd, 1) := by decide +kernel
theorem dX5_isRegister_7 : decode cX5_isRegister 7 = .ok (.invokevirtual 34, 3) := by decide +kernel
theorem dX5_isRegister_10 : decode cX5_isRegister 10 = .ok (.istore_n 2, 1) := by decide +kernel
theorem dX5_isRegister_11 : decode cX5_isRegister 11 = .ok (.aload_n 1, 1) := by decide +kernel
theorem dX5_isRegister_12 : decode cX5_isRegister 12 = .ok (.aload_n 0, 1) := by decide +kernel
theorem dX5_isRegister_13 : decode cX5_isRegister 13 = .ok (.getfield 22, 3) := by decide +kernel
theorem dX5_isRegister_16 : decode cX5_isRegister 16 = .ok (.iconst 2, 1) := by decide +kernel
theorem dX5_isRegister_17 : decode cX5_isRegister 17 = .ok (.iadd, 1) := by decide +kernel
theorem dX5_isRegister_18 : decode cX5_isRegister 18 = .ok (.invokevirtual 34, 3) := by decide +kernel
theorem dX5_isRegister_21 : decode cX5_isRegister 21 = .ok (.istore_n 3, 1) := by decide +kernel
theorem dX5_isRegister_22 : decode cX5_isRegister 22 = .ok (.aload_n 1, 1) := by decide +kernel
theorem dX5_isRegister_23 : decode cX5_isRegister 23 = .ok (.aload_n 0, 1) := by decide +kernel
theorem dX5_isRegister_24 : decode cX5_isRegister 24 = .ok (.getfield 22, 3) := by decide +kernel
theorem dX5_isRegister_27 : decode cX5_isRegister 27 = .ok (.invokevirtual 34, 3) := by decide +kernel
theorem dX5_isRegister_30 : decode cX5_isRegister 30 = .ok (.bipush 114, 2) := by decide +kernel
theorem dX5_isRegister_32 : decode cX5_isRegister 32 = .ok (.if_icmp .ne 33, 3) := by decide +kernel
theorem dX5_isRegister_35 : decode cX5_isRegister 35 = .ok (.iload_n 2, 1) := by decide +kernel
theorem dX5_isRegister_36 : decode cX5_isRegister 36 = .ok (.bipush 48, 2) := by decide +kernel
theorem dX5_isRegister_38 : decode cX5_isRegister 38 = .ok (.if_icmp .lt 27, 3) := by decide +kernel
theorem dX5_isRegister_41 : decode cX5_isRegister 41 = .ok (.iload_n 2, 1) := by decide +kernel
theorem dX5_isRegister_42 : decode cX5_isRegister 42 = .ok (.bipush 56, 2) := by decide +kernel
theorem dX5_isRegister_44 : decode cX5_isRegister 44 = .ok (.if_icmp .ge 21, 3) := by decide +kernel
theorem dX5_isRegister_47 : decode cX5_isRegister 47 = .ok (.iload_n 3, 1) := by decide +kernel
theorem dX5_isRegister_48 : decode cX5_isRegister 48 = .ok (.invokestatic 44, 3) := by decide +kernel
theorem dX5_isRegister_51 : decode cX5_isRegister 51 = .ok (.ifCond .ne 14, 3) := by decide +kernel
theorem dX5_isRegister_54 : decode cX5_isRegister 54 = .ok (.iload_n 3, 1) := by decide +kernel
theorem dX5_isRegister_55 : decode cX5_isRegister 55 = .ok (.invokestatic 51, 3) := by decide +kernel
theorem dX5_isRegister_58 : decode cX5_isRegister 58 = .ok (.ifCond .ne 7, 3) := by decide +kernel
theorem dX5_isRegister_61 : decode cX5_isRegister 61 = .ok (.iconst 1, 1) := by decide +kernel
theorem dX5_isRegister_62 : decode cX5_isRegister 62 = .ok (.goto 4, 3) := by decide +kernel
theorem dX5_isRegister_65 : decode cX5_isRegister 65 = .ok (.iconst 0, 1) := by decide +kernel
theorem dX5_isRegister_66 : decode cX5_isRegister 66 = .ok (.ireturn, 1) := by decide +kernel
theorem dX5_readWord_0 : decode cX5_readWord 0 = .ok (.iconst 0, 1) := by decide +kernel
theorem dX5_readWord_1 : decode cX5_readWord 1 = .ok (.istore_n 3, 1) := by decide +kernel
