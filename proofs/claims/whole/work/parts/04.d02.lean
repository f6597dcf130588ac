theorem dX5_readWord_2 : decode cX5_readWord 2 = .ok (.lconst 0, 1) := by decide +kernel
theorem dX5_readWord_3 : decode cX5_readWord 3 = .ok (.lstore 4, 2) := by decide +kernel
theorem dX5_readWord_5 : decode cX5_readWord 5 = .ok (.iload_n 3, 1) := by decide +kernel
theorem dX5_readWord_6 : decode cX5_readWord 6 = .ok (.sipush 1000, 3) := by decide +kernel
theorem dX5_readWord_9 : decode cX5_readWord 9 = .ok (.if_icmp .ge 48, 3) := by decide +kernel
theorem dX5_readWord_12 : decode cX5_readWord 12 = .ok (.aload_n 1, 1) := by decide +kernel
theorem dX5_readWord_13 : decode cX5_readWord 13 = .ok (.aload_n 0, 1) := by decide +kernel
theorem dX5_readWord_14 : decode cX5_readWord 14 = .ok (.getfield 22, 3) := by decide +kernel
theorem dX5_readWord_17 : decode cX5_readWord 17 = .ok (.invokevirtual 34, 3) := by decide +kernel
theorem dX5_readWord_20 : decode cX5_readWord 20 = .ok (.invokestatic 44, 3) := by decide +kernel
theorem dX5_readWord_23 : decode cX5_readWord 23 = .ok (.ifCond .eq 34, 3) := by decide +kernel
theorem dX5_readWord_26 : decode cX5_readWord 26 = .ok (.lload 4, 2) := by decide +kernel
theorem dX5_readWord_28 : decode cX5_readWord 28 = .ok (.aload_n 1, 1) := by decide +kernel
theorem dX5_readWord_29 : decode cX5_readWord 29 = .ok (.aload_n 0, 1) := by decide +kernel
theorem dX5_readWord_30 : decode cX5_readWord 30 = .ok (.getfield 22, 3) := by decide +kernel
theorem dX5_readWord_33 : decode cX5_readWord 33 = .ok (.invokevirtual 34, 3) := by decide +kernel
theorem dX5_readWord_36 : decode cX5_readWord 36 = .ok (.invokestatic 57, 3) := by decide +kernel
theorem dX5_readWord_39 : decode cX5_readWord 39 = .ok (.lstore 4, 2) := by decide +kernel
theorem dX5_readWord_41 : decode cX5_readWord 41 = .ok (.iinc 3 1, 3) := by decide +kernel
theorem dX5_readWord_44 : decode cX5_readWord 44 = .ok (.aload_n 0, 1) := by decide +kernel
theorem dX5_readWord_45 : decode cX5_readWord 45 = .ok (.dup, 1) := by decide +kernel
theorem dX5_readWord_46 : decode cX5_readWord 46 = .ok (.getfield 22, 3) := by decide +kernel
theorem dX5_readWord_49 : decode cX5_readWord 49 = .ok (.iconst 1, 1) := by decide +kernel
theorem dX5_readWord_50 : decode cX5_readWord 50 = .ok (.iadd, 1) := by decide +kernel
theorem dX5_readWord_51 : decode cX5_readWord 51 = .ok (.putfield 22, 3) := by decide +kernel
theorem dX5_readWord_54 : decode cX5_readWord 54 = .ok (.goto (-49), 3) := by decide +kernel
theorem dX5_readWord_57 : decode cX5_readWord 57 = .ok (.aload_n 0, 1) := by decide +kernel
theorem dX5_readWord_58 : decode cX5_readWord 58 = .ok (.getfield 18, 3) := by decide +kernel
theorem dX5_readWord_61 : decode cX5_readWord 61 = .ok (.iload_n 2, 1) := by decide +kernel
theorem dX5_readWord_62 : decode cX5_readWord 62 = .ok (.lload 4, 2) := by decide +kernel
theorem dX5_readWord_64 : decode cX5_readWord 64 = .ok (.lastore, 1) := by decide +kernel
theorem dX5_readWord_65 : decode cX5_readWord 65 = .ok (.iload_n 3, 1) := by decide +kernel
theorem dX5_readWord_66 : decode cX5_readWord 66 = .ok (.bipush 8, 2) := by decide +kernel
theorem dX5_readWord_68 : decode cX5_readWord 68 = .ok (.if_icmp .gt 7, 3) := by decide +kernel
theorem dX5_readWord_71 : decode cX5_readWord 71 = .ok (.iconst 1, 1) := by decide +kernel
theorem dX5_readWord_72 : decode cX5_readWord 72 = .ok (.goto 4, 3) := by decide +kernel
theorem dX5_readWord_75 : decode cX5_readWord 75 = .ok (.iconst 0, 1) := by decide +kernel
theorem dX5_readWord_76 : decode cX5_readWord 76 = .ok (.ireturn, 1) := by decide +kernel
theorem dX5_readNumber_0 : decode cX5_readNumber 0 = .ok (.aload_n 1, 1) := by decide +kernel
theorem dX5_readNumber_1 : decode cX5_readNumber 1 = .ok (.aload_n 0, 1) := by decide +kernel
theorem dX5_readNumber_2 : decode cX5_readNumber 2 = .ok (.getfield 22, 3) := by decide +kernel
theorem dX5_readNumber_5 : decode cX5_readNumber 5 = .ok (.invokevirtual 34, 3) := by decide +kernel
theorem dX5_readNumber_8 : decode cX5_readNumber 8 = .ok (.bipush 45, 2) := by decide +kernel
theorem dX5_readNumber_10 : decode cX5_readNumber 10 = .ok (.if_icmp .ne 7, 3) := by decide +kernel
theorem dX5_readNumber_13 : decode cX5_readNumber 13 = .ok (.iconst 1, 1) := by decide +kernel
theorem dX5_readNumber_14 : decode cX5_readNumber 14 = .ok (.goto 4, 3) := by decide +kernel
theorem dX5_readNumber_17 : decode cX5_readNumber 17 = .ok (.iconst 0, 1) := by decide +kernel
theorem dX5_readNumber_18 : decode cX5_readNumber 18 = .ok (.istore_n 3, 1) := by decide +kernel
theorem dX5_readNumber_19 : decode cX5_readNumber 19 = .ok (.iload_n 3, 1) := by decide +kernel
theorem dX5_readNumber_20 : decode cX5_readNumber 20 = .ok (.ifCond .eq 13, 3) := by decide +kernel
theorem dX5_readNumber_23 : decode cX5_readNumber 23 = .ok (.aload_n 0, 1) := by decide +kernel
theorem dX5_readNumber_24 : decode cX5_readNumber 24 = .ok (.dup, 1) := by decide +kernel
theorem dX5_readNumber_25 : decode cX5_readNumber 25 = .ok (.getfield 22, 3) := by decide +kernel
theorem dX5_readNumber_28 : decode cX5_readNumber 28 = .ok (.iconst 1, 1) := by decide +kernel
theorem dX5_readNumber_29 : decode cX5_readNumber 29 = .ok (.iadd, 1) := by decide +kernel
theorem dX5_readNumber_30 : decode cX5_readNumber 30 = .ok (.putfield 22, 3) := by decide +kernel
theorem dX5_readNumber_33 : decode cX5_readNumber 33 = .ok (.iconst 0, 1) := by decide +kernel
theorem dX5_readNumber_34 : decode cX5_readNumber 34 = .ok (.istore 4, 2) := by decide +kernel
theorem dX5_readNumber_36 : decode cX5_readNumber 36 = .ok (.lconst 0, 1) := by decide +kernel
theorem dX5_readNumber_37 : decode cX5_readNumber 37 = .ok (.lstore 5, 2) := by decide +kernel
theorem dX5_readNumber_39 : decode cX5_readNumber 39 = .ok (.iload 4, 2) := by decide +kernel
theorem dX5_readNumber_41 : decode cX5_readNumber 41 = .ok (.sipush 1000, 3) := by decide +kernel
theorem dX5_readNumber_44 : decode cX5_readNumber 44 = .ok (.if_icmp .ge 54, 3) := by decide +kernel
theorem dX5_readNumber_47 : decode cX5_readNumber 47 = .ok (.aload_n 1, 1) := by decide +kernel
theorem dX5_readNumber_48 : decode cX5_readNumber 48 = .ok (.aload_n 0, 1) := by decide +kernel
theorem dX5_readNumber_49 : decode cX5_readNumber 49 = .ok (.getfield 22, 3) := by decide +kernel
theorem dX5_readNumber_52 : decode cX5_readNumber 52 = .ok (.invokevirtual 34, 3) := by decide +kernel
theorem dX5_readNumber_55 : decode cX5_readNumber 55 = .ok (.invokestatic 51, 3) := by decide +kernel
theorem dX5_readNumber_58 : decode cX5_readNumber 58 = .ok (.ifCond .eq 40, 3) := by decide +kernel
theorem dX5_readNumber_61 : decode cX5_readNumber 61 = .ok (.lload 5, 2) := by decide +kernel
theorem dX5_readNumber_63 : decode cX5_readNumber 63 = .ok (.ldc2_w 61, 3) := by decide +kernel
theorem dX5_readNumber_66 : decode cX5_readNumber 66 = .ok (.lmul, 1) := by decide +kernel
theorem dX5_readNumber_67 : decode cX5_readNumber 67 = .ok (.aload_n 1, 1) := by decide +kernel
theorem dX5_readNumber_68 : decode cX5_readNumber 68 = .ok (.aload_n 0, 1) := by decide +kernel
theorem dX5_readNumber_69 : decode cX5_readNumber 69 = .ok (.getfield 22, 3) := by decide +kernel
theorem dX5_readNumber_72 : decode cX5_readNumber 72 = .ok (.invokevirtual 34, 3) := by decide +kernel
theorem dX5_readNumber_75 : decode cX5_readNumber 75 = .ok (.bipush 48, 2) := by decide +kernel
theorem dX5_readNumber_77 : decode cX5_readNumber 77 = .ok (.isub, 1) := by decide +kernel
theorem dX5_readNumber_78 : decode cX5_readNumber 78 = .ok (.i2l, 1) := by decide +kernel
theorem dX5_readNumber_79 : decode cX5_readNumber 79 = .ok (.ladd, 1) := by decide +kernel
theorem dX5_readNumber_80 : decode cX5_readNumber 80 = .ok (.lstore 5, 2) := by decide +kernel
theorem dX5_readNumber_82 : decode cX5_readNumber 82 = .ok (.iinc 4 1, 3) := by decide +kernel
theorem dX5_readNumber_85 : decode cX5_readNumber 85 = .ok (.aload_n 0, 1) := by decide +kernel
theorem dX5_readNumber_86 : decode cX5_readNumber 86 = .ok (.dup, 1) := by decide +kernel
theorem dX5_readNumber_87 : decode cX5_readNumber 87 = .ok (.getfield 22, 3) := by decide +kernel
theorem dX5_readNumber_90 : decode cX5_readNumber 90 = .ok (.iconst 1, 1) := by decide +kernel
theorem dX5_readNumber_91 : decode cX5_readNumber 91 = .ok (.iadd, 1) := by decide +kernel
theorem dX5_readNumber_92 : decode cX5_readNumber 92 = .ok (.putfield 22, 3) := by decide +kernel
theorem dX5_readNumber_95 : decode cX5_readNumber 95 = .ok (.goto (-56), 3) := by decide +kernel
theorem dX5_readNumber_98 : decode cX5_readNumber 98 = .ok (.aload_n 0, 1) := by decide +kernel
theorem dX5_readNumber_99 : decode cX5_readNumber 99 = .ok (.getfield 18, 3) := by decide +kernel
theorem dX5_readNumber_102 : decode cX5_readNumber 102 = .ok (.iload_n 2, 1) := by decide +kernel
theorem dX5_readNumber_103 : decode cX5_readNumber 103 = .ok (.iload_n 3, 1) := by decide +kernel
theorem dX5_readNumber_104 : decode cX5_readNumber 104 = .ok (.ifCond .eq 9, 3) := by decide +kernel
theorem dX5_readNumber_107 : decode cX5_readNumber 107 = .ok (.lload 5, 2) := by decide +kernel
theorem dX5_readNumber_109 : decode cX5_readNumber 109 = .ok (.lneg, 1) := by decide +kernel
theorem dX5_readNumber_110 : decode cX5_readNumber 110 = .ok (.goto 5, 3) := by decide +kernel
theorem dX5_readNumber_113 : decode cX5_readNumber 113 = .ok (.lload 5, 2) := by decide +kernel
theorem dX5_readNumber_115 : decode cX5_readNumber 115 = .ok (.lastore, 1) := by decide +kernel
theorem dX5_readNumber_116 : decode cX5_readNumber 116 = .ok (.iload 4, 2) := by decide +kernel
theorem dX5_readNumber_118 : decode cX5_readNumber 118 = .ok (.iconst 1, 1) := by decide +kernel
theorem dX5_readNumber_119 : decode cX5_readNumber 119 = .ok (.if_icmp .lt 28, 3) := by decide +kernel
theorem dX5_readNumber_122 : decode cX5_readNumber 122 = .ok (.iload 4, 2) := by decide +kernel
theorem dX5_readNumber_124 : decode cX5_readNumber 124 = .ok (.bipush 6, 2) := by decide +kernel
theorem dX5_readNumber_126 : decode cX5_readNumber 126 = .ok (.if_icmp .gt 21, 3) := by decide +kernel
theorem dX5_readNumber_129 : decode cX5_readNumber 129 = .ok (.aload_n 1, 1) := by decide +kernel
theorem dX5_readNumber_130 : decode cX5_readNumber 130 = .ok (.aload_n 0, 1) := by decide +kernel
theorem dX5_readNumber_131 : decode cX5_readNumber 131 = .ok (.getfield 22, 3) := by decide +kernel
theorem dX5_readNumber_134 : decode cX5_readNumber 134 = .ok (.invokevirtual 34, 3) := by decide +kernel
theorem dX5_readNumber_137 : decode cX5_readNumber 137 = .ok (.invokestatic 44, 3) := by decide +kernel
theorem dX5_readNumber_140 : decode cX5_readNumber 140 = .ok (.ifCond .ne 7, 3) := by decide +kernel
theorem dX5_readNumber_143 : decode cX5_readNumber 143 = .ok (.iconst 1, 1) := by decide +kernel
theorem dX5_readNumber_144 : decode cX5_readNumber 144 = .ok (.goto 4, 3) := by decide +kernel
theorem dX5_readNumber_147 : decode cX5_readNumber 147 = .ok (.iconst 0, 1) := by decide +kernel
theorem dX5_readNumber_148 : decode cX5_readNumber 148 = .ok (.istore 7, 2) := by decide +kernel
theorem dX5_readNumber_150 : decode cX5_readNumber 150 = .ok (.iload 7, 2) := by decide +kernel
theorem dX5_readNumber_152 : decode cX5_readNumber 152 = .ok (.ifCond .eq 7, 3) := by decide +kernel
theorem dX5_readNumber_155 : decode cX5_readNumber 155 = .ok (.iconst 3, 1) := by decide +kernel
theorem dX5_readNumber_156 : decode cX5_readNumber 156 = .ok (.goto 4, 3) := by decide +kernel
theorem dX5_readNumber_159 : decode cX5_readNumber 159 = .ok (.iconst 0, 1) := by decide +kernel
theorem dX5_readNumber_160 : decode cX5_readNumber 160 = .ok (.ireturn, 1) := by decide +kernel
theorem dX6_init_0 : decode cX6_init 0 = .ok (.aload_n 0, 1) := by decide +kernel
theorem dX6_init_1 : decode cX6_init 1 = .ok (.invokespecial 3, 3) := by decide +kernel
theorem dX6_init_4 : decode cX6_init 4 = .ok (.aload_n 0, 1) := by decide +kernel
theorem dX6_init_5 : decode cX6_init 5 = .ok (.new 9, 3) := by decide +kernel
theorem dX6_init_8 : decode cX6_init 8 = .ok (.dup, 1) := by decide +kernel
theorem dX6_init_9 : decode cX6_init 9 = .ok (.bipush 24, 2) := by decide +kernel
theorem dX6_init_11 : decode cX6_init 11 = .ok (.invokespecial 11, 3) := by decide +kernel
theorem dX6_init_14 : decode cX6_init 14 = .ok (.putfield 14, 3) := by decide +kernel
theorem dX6_init_17 : decode cX6_init 17 = .ok (.aload_n 0, 1) := by decide +kernel
theorem dX6_init_18 : decode cX6_init 18 = .ok (.new 9, 3) := by decide +kernel
theorem dX6_init_21 : decode cX6_init 21 = .ok (.dup, 1) := by decide +kernel
theorem dX6_init_22 : decode cX6_init 22 = .ok (.bipush 24, 2) := by decide +kernel
theorem dX6_init_24 : decode cX6_init 24 = .ok (.invokespecial 11, 3) := by decide +kernel
theorem dX6_init_27 : decode cX6_init 27 = .ok (.putfield 20, 3) := by decide +kernel
theorem dX6_init_30 : decode cX6_init 30 = .ok (.aload_n 0, 1) := by decide +kernel
theorem dX6_init_31 : decode cX6_init 31 = .ok (.iconst (-1), 1) := by decide +kernel
theorem dX6_init_32 : decode cX6_init 32 = .ok (.putfield 23, 3) := by decide +kernel
theorem dX6_init_35 : decode cX6_init 35 = .ok (.aload_n 0, 1) := by decide +kernel
theorem dX6_init_36 : decode cX6_init 36 = .ok (.iconst (-1), 1) := by decide +kernel
theorem dX6_init_37 : decode cX6_init 37 = .ok (.putfield 27, 3) := by decide +kernel
theorem dX6_init_40 : decode cX6_init 40 = .ok (.aload_n 0, 1) := by decide +kernel
theorem dX6_init_41 : decode cX6_init 41 = .ok (.new 9, 3) := by decide +kernel
theorem dX6_init_44 : decode cX6_init 44 = .ok (.dup, 1) := by decide +kernel
theorem dX6_init_45 : decode cX6_init 45 = .ok (.bipush 24, 2) := by decide +kernel
theorem dX6_init_47 : decode cX6_init 47 = .ok (.invokespecial 11, 3) := by decide +kernel
theorem dX6_init_50 : decode cX6_init 50 = .ok (.putfield 30, 3) := by decide +kernel
theorem dX6_init_53 : decode cX6_init 53 = .ok (.aload_n 0, 1) := by decide +kernel
theorem dX6_init_54 : decode cX6_init 54 = .ok (.new 33, 3) := by decide +kernel
theorem dX6_init_57 : decode cX6_init 57 = .ok (.dup, 1) := by decide +kernel
theorem dX6_init_58 : decode cX6_init 58 = .ok (.invokespecial 35, 3) := by decide +kernel
theorem dX6_init_61 : decode cX6_init 61 = .ok (.putfield 36, 3) := by decide +kernel
theorem dX6_init_64 : decode cX6_init 64 = .ok (.aload_n 0, 1) := by decide +kernel
theorem dX6_init_65 : decode cX6_init 65 = .ok (.new 33, 3) := by decide +kernel
theorem dX6_init_68 : decode cX6_init 68 = .ok (.dup, 1) := by decide +kernel
theorem dX6_init_69 : decode cX6_init 69 = .ok (.invokespecial 35, 3) := by decide +kernel
theorem dX6_init_72 : decode cX6_init 72 = .ok (.putfield 40, 3) := by decide +kernel
theorem dX6_init_75 : decode cX6_init 75 = .ok (.return_, 1) := by decide +kernel
theorem dX6_makeSmall_0 : decode cX6_makeSmall 0 = .ok (.aload_n 0, 1) := by decide +kernel
theorem dX6_makeSmall_1 : decode cX6_makeSmall 1 = .ok (.getfield 36, 3) := by decide +kernel
theorem dX6_makeSmall_4 : decode cX6_makeSmall 4 = .ok (.aload_n 1, 1) := by decide +kernel
theorem dX6_makeSmall_5 : decode cX6_makeSmall 5 = .ok (.aload_n 2, 1) := by decide +kernel
theorem dX6_makeSmall_6 : decode cX6_makeSmall 6 = .ok (.invokevirtual 43, 3) := by decide +kernel
theorem dX6_makeSmall_9 : decode cX6_makeSmall 9 = .ok (.aload_n 0, 1) := by decide +kernel
theorem dX6_makeSmall_10 : decode cX6_makeSmall 10 = .ok (.getfield 36, 3) := by decide +kernel
theorem dX6_makeSmall_13 : decode cX6_makeSmall 13 = .ok (.invokevirtual 47, 3) := by decide +kernel
theorem dX6_makeSmall_16 : decode cX6_makeSmall 16 = .ok (.ifCond .ne 5, 3) := by decide +kernel
theorem dX6_makeSmall_19 : decode cX6_makeSmall 19 = .ok (.iconst 0, 1) := by decide +kernel
theorem dX6_makeSmall_20 : decode cX6_makeSmall 20 = .ok (.ireturn, 1) := by decide +kernel
theorem dX6_makeSmall_21 : decode cX6_makeSmall 21 = .ok (.aload_n 0, 1) := by decide +kernel
theorem dX6_makeSmall_22 : decode cX6_makeSmall 22 = .ok (.getfield 14, 3) := by decide +kernel
theorem dX6_makeSmall_25 : decode cX6_makeSmall 25 = .ok (.aload_n 2, 1) := by decide +kernel
theorem dX6_makeSmall_26 : decode cX6_makeSmall 26 = .ok (.invokevirtual 51, 3) := by decide +kernel
theorem dX6_makeSmall_29 : decode cX6_makeSmall 29 = .ok (.iconst 1, 1) := by decide +kernel
theorem dX6_makeSmall_30 : decode cX6_makeSmall 30 = .ok (.istore_n 3, 1) := by decide +kernel
theorem dX6_makeSmall_31 : decode cX6_makeSmall 31 = .ok (.iconst 0, 1) := by decide +kernel
theorem dX6_makeSmall_32 : decode cX6_makeSmall 32 = .ok (.istore 4, 2) := by decide +kernel
theorem dX6_makeSmall_34 : decode cX6_makeSmall 34 = .ok (.iload 4, 2) := by decide +kernel
theorem dX6_makeSmall_36 : decode cX6_makeSmall 36 = .ok (.bipush 24, 2) := by decide +kernel
theorem dX6_makeSmall_38 : decode cX6_makeSmall 38 = .ok (.if_icmp .gt 19, 3) := by decide +kernel
theorem dX6_makeSmall_41 : decode cX6_makeSmall 41 = .ok (.iload_n 3, 1) := by decide +kernel
theorem dX6_makeSmall_42 : decode cX6_makeSmall 42 = .ok (.ifCond .eq 15, 3) := by decide +kernel
theorem dX6_makeSmall_45 : decode cX6_makeSmall 45 = .ok (.aload_n 0, 1) := by decide +kernel
theorem dX6_makeSmall_46 : decode cX6_makeSmall 46 = .ok (.aload_n 1, 1) := by decide +kernel
theorem dX6_makeSmall_47 : decode cX6_makeSmall 47 = .ok (.invokevirtual 55, 3) := by decide +kernel
theorem dX6_makeSmall_50 : decode cX6_makeSmall 50 = .ok (.istore_n 3, 1) := by decide +kernel
theorem dX6_makeSmall_51 : decode cX6_makeSmall 51 = .ok (.iinc 4 1, 3) := by decide +kernel
theorem dX6_makeSmall_54 : decode cX6_makeSmall 54 = .ok (.goto (-20), 3) := by decide +kernel
theorem dX6_makeSmall_57 : decode cX6_makeSmall 57 = .ok (.aload_n 0, 1) := by decide +kernel
theorem dX6_makeSmall_58 : decode cX6_makeSmall 58 = .ok (.getfield 20, 3) := by decide +kernel
theorem dX6_makeSmall_61 : decode cX6_makeSmall 61 = .ok (.aload_n 0, 1) := by decide +kernel
theorem dX6_makeSmall_62 : decode cX6_makeSmall 62 = .ok (.getfield 14, 3) := by decide +kernel
theorem dX6_makeSmall_65 : decode cX6_makeSmall 65 = .ok (.invokevirtual 51, 3) := by decide +kernel
theorem dX6_makeSmall_68 : decode cX6_makeSmall 68 = .ok (.iconst 0, 1) := by decide +kernel
theorem dX6_makeSmall_69 : decode cX6_makeSmall 69 = .ok (.istore 4, 2) := by decide +kernel
theorem dX6_makeSmall_71 : decode cX6_makeSmall 71 = .ok (.iload 4, 2) := by decide +kernel
theorem dX6_makeSmall_73 : decode cX6_makeSmall 73 = .ok (.aload_n 0, 1) := by decide +kernel
theorem dX6_makeSmall_74 : decode cX6_makeSmall 74 = .ok (.getfield 20, 3) := by decide +kernel
theorem dX6_makeSmall_77 : decode cX6_makeSmall 77 = .ok (.getfield 59, 3) := by decide +kernel
theorem dX6_makeSmall_80 : decode cX6_makeSmall 80 = .ok (.if_icmp .ge 16, 3) := by decide +kernel
theorem dX6_makeSmall_83 : decode cX6_makeSmall 83 = .ok (.aload_n 0, 1) := by decide +kernel
theorem dX6_makeSmall_84 : decode cX6_makeSmall 84 = .ok (.aload_n 1, 1) := by decide +kernel
theorem dX6_makeSmall_85 : decode cX6_makeSmall 85 = .ok (.iload 4, 2) := by decide +kernel
theorem dX6_makeSmall_87 : decode cX6_makeSmall 87 = .ok (.invokevirtual 62, 3) := by decide +kernel
theorem dX6_makeSmall_90 : decode cX6_makeSmall 90 = .ok (.iinc 4 1, 3) := by decide +kernel
theorem dX6_makeSmall_93 : decode cX6_makeSmall 93 = .ok (.goto (-22), 3) := by decide +kernel
theorem dX6_makeSmall_96 : decode cX6_makeSmall 96 = .ok (.iconst 1, 1) := by decide +kernel
theorem dX6_makeSmall_97 : decode cX6_makeSmall 97 = .ok (.ireturn, 1) := by decide +kernel
theorem dX6_rulingBytes_0 : decode cX6_rulingBytes 0 = .ok (.aload_n 0, 1) := by decide +kernel
theorem dX6_rulingBytes_1 : decode cX6_rulingBytes 1 = .ok (.getfield 36, 3) := by decide +kernel
theorem dX6_rulingBytes_4 : decode cX6_rulingBytes 4 = .ok (.aload_n 1, 1) := by decide +kernel
theorem dX6_rulingBytes_5 : decode cX6_rulingBytes 5 = .ok (.aload_n 2, 1) := by decide +kernel
theorem dX6_rulingBytes_6 : decode cX6_rulingBytes 6 = .ok (.invokevirtual 43, 3) := by decide +kernel
theorem dX6_rulingBytes_9 : decode cX6_rulingBytes 9 = .ok (.aload_n 0, 1) := by decide +kernel
theorem dX6_rulingBytes_10 : decode cX6_rulingBytes 10 = .ok (.getfield 36, 3) := by decide +kernel
theorem dX6_rulingBytes_13 : decode cX6_rulingBytes 13 = .ok (.invokevirtual 47, 3) := by decide +kernel
theorem dX6_rulingBytes_16 : decode cX6_rulingBytes 16 = .ok (.ifCond .ne 5, 3) := by decide +kernel
theorem dX6_rulingBytes_19 : decode cX6_rulingBytes 19 = .ok (.iconst 0, 1) := by decide +kernel
theorem dX6_rulingBytes_20 : decode cX6_rulingBytes 20 = .ok (.ireturn, 1) := by decide +kernel
theorem dX6_rulingBytes_21 : decode cX6_rulingBytes 21 = .ok (.aload_n 0, 1) := by decide +kernel
theorem dX6_rulingBytes_22 : decode cX6_rulingBytes 22 = .ok (.getfield 30, 3) := by decide +kernel
theorem dX6_rulingBytes_25 : decode cX6_rulingBytes 25 = .ok (.aload_n 2, 1) := by decide +kernel
theorem dX6_rulingBytes_26 : decode cX6_rulingBytes 26 = .ok (.invokevirtual 51, 3) := by decide +kernel
theorem dX6_rulingBytes_29 : decode cX6_rulingBytes 29 = .ok (.iconst 0, 1) := by decide +kernel
theorem dX6_rulingBytes_30 : decode cX6_rulingBytes 30 = .ok (.istore_n 3, 1) := by decide +kernel
theorem dX6_rulingBytes_31 : decode cX6_rulingBytes 31 = .ok (.iconst 0, 1) := by decide +kernel
theorem dX6_rulingBytes_32 : decode cX6_rulingBytes 32 = .ok (.istore 4, 2) := by decide +kernel
theorem dX6_rulingBytes_34 : decode cX6_rulingBytes 34 = .ok (.iload 4, 2) := by decide +kernel
theorem dX6_rulingBytes_36 : decode cX6_rulingBytes 36 = .ok (.aload_n 0, 1) := by decide +kernel
theorem dX6_rulingBytes_37 : decode cX6_rulingBytes 37 = .ok (.getfield 36, 3) := by decide +kernel
theorem dX6_rulingBytes_40 : decode cX6_rulingBytes 40 = .ok (.getfield 66, 3) := by decide +kernel
theorem dX6_rulingBytes_43 : decode cX6_rulingBytes 43 = .ok (.if_icmp .ge 41, 3) := by decide +kernel
theorem dX6_rulingBytes_46 : decode cX6_rulingBytes 46 = .ok (.aload_n 0, 1) := by decide +kernel
theorem dX6_rulingBytes_47 : decode cX6_rulingBytes 47 = .ok (.aload_n 1, 1) := by decide +kernel
theorem dX6_rulingBytes_48 : decode cX6_rulingBytes 48 = .ok (.iload 4, 2) := by decide +kernel
theorem dX6_rulingBytes_50 : decode cX6_rulingBytes 50 = .ok (.invokevirtual 69, 3) := by decide +kernel
theorem dX6_rulingBytes_53 : decode cX6_rulingBytes 53 = .ok (.ifCond .eq 10, 3) := by decide +kernel
theorem dX6_rulingBytes_56 : decode cX6_rulingBytes 56 = .ok (.iload_n 3, 1) := by decide +kernel
theorem dX6_rulingBytes_57 : decode cX6_rulingBytes 57 = .ok (.iconst 1, 1) := by decide +kernel
theorem dX6_rulingBytes_58 : decode cX6_rulingBytes 58 = .ok (.iload 4, 2) := by decide +kernel
theorem dX6_rulingBytes_60 : decode cX6_rulingBytes 60 = .ok (.ishl, 1) := by decide +kernel
theorem dX6_rulingBytes_61 : decode cX6_rulingBytes 61 = .ok (.ior, 1) := by decide +kernel
theorem dX6_rulingBytes_62 : decode cX6_rulingBytes 62 = .ok (.istore_n 3, 1) := by decide +kernel
theorem dX6_rulingBytes_63 : decode cX6_rulingBytes 63 = .ok (.aload_n 0, 1) := by decide +kernel
theorem dX6_rulingBytes_64 : decode cX6_rulingBytes 64 = .ok (.getfield 30, 3) := by decide +kernel
theorem dX6_rulingBytes_67 : decode cX6_rulingBytes 67 = .ok (.iload 4, 2) := by decide +kernel
theorem dX6_rulingBytes_69 : decode cX6_rulingBytes 69 = .ok (.aload_n 2, 1) := by decide +kernel
theorem dX6_rulingBytes_70 : decode cX6_rulingBytes 70 = .ok (.iload 4, 2) := by decide +kernel
theorem dX6_rulingBytes_72 : decode cX6_rulingBytes 72 = .ok (.invokevirtual 73, 3) := by decide +kernel
theorem dX6_rulingBytes_75 : decode cX6_rulingBytes 75 = .ok (.invokevirtual 77, 3) := by decide +kernel
theorem dX6_rulingBytes_78 : decode cX6_rulingBytes 78 = .ok (.iinc 4 1, 3) := by decide +kernel
theorem dX6_rulingBytes_81 : decode cX6_rulingBytes 81 = .ok (.goto (-47), 3) := by decide +kernel
theorem dX6_rulingBytes_84 : decode cX6_rulingBytes 84 = .ok (.iload_n 3, 1) := by decide +kernel
theorem dX6_rulingBytes_85 : decode cX6_rulingBytes 85 = .ok (.ireturn, 1) := by decide +kernel
theorem dX6_findNearest_0 : decode cX6_findNearest 0 = .ok (.aload_n 0, 1) := by decide +kernel
theorem dX6_findNearest_1 : decode cX6_findNearest 1 = .ok (.iconst (-1), 1) := by decide +kernel
theorem dX6_findNearest_2 : decode cX6_findNearest 2 = .ok (.putfield 23, 3) := by decide +kernel
theorem dX6_findNearest_5 : decode cX6_findNearest 5 = .ok (.aload_n 0, 1) := by decide +kernel
theorem dX6_findNearest_6 : decode cX6_findNearest 6 = .ok (.iconst (-1), 1) := by decide +kernel
theorem dX6_findNearest_7 : decode cX6_findNearest 7 = .ok (.putfield 27, 3) := by decide +kernel
theorem dX6_findNearest_10 : decode cX6_findNearest 10 = .ok (.aload_n 0, 1) := by decide +kernel
theorem dX6_findNearest_11 : decode cX6_findNearest 11 = .ok (.getfield 36, 3) := by decide +kernel
theorem dX6_findNearest_14 : decode cX6_findNearest 14 = .ok (.aload_n 1, 1) := by decide +kernel
theorem dX6_findNearest_15 : decode cX6_findNearest 15 = .ok (.aload_n 2, 1) := by decide +kernel
theorem dX6_findNearest_16 : decode cX6_findNearest 16 = .ok (.invokevirtual 43, 3) := by decide +kernel
theorem dX6_findNearest_19 : decode cX6_findNearest 19 = .ok (.aload_n 0, 1) := by decide +kernel
theorem dX6_findNearest_20 : decode cX6_findNearest 20 = .ok (.getfield 36, 3) := by decide +kernel
theorem dX6_findNearest_23 : decode cX6_findNearest 23 = .ok (.getfield 81, 3) := by decide +kernel
theorem dX6_findNearest_26 : decode cX6_findNearest 26 = .ok (.ifCond .ne 4, 3) := by decide +kernel
theorem dX6_findNearest_29 : decode cX6_findNearest 29 = .ok (.return_, 1) := by decide +kernel
theorem dX6_findNearest_30 : decode cX6_findNearest 30 = .ok (.aload_n 0, 1) := by decide +kernel
theorem dX6_findNearest_31 : decode cX6_findNearest 31 = .ok (.getfield 30, 3) := by decide +kernel
theorem dX6_findNearest_34 : decode cX6_findNearest 34 = .ok (.aload_n 2, 1) := by decide +kernel
theorem dX6_findNearest_35 : decode cX6_findNearest 35 = .ok (.invokevirtual 51, 3) := by decide +kernel
theorem dX6_findNearest_38 : decode cX6_findNearest 38 = .ok (.iconst 0, 1) := by decide +kernel
theorem dX6_findNearest_39 : decode cX6_findNearest 39 = .ok (.istore_n 3, 1) := by decide +kernel
theorem dX6_findNearest_40 : decode cX6_findNearest 40 = .ok (.iload_n 3, 1) := by decide +kernel
theorem dX6_findNearest_41 : decode cX6_findNearest 41 = .ok (.aload_n 0, 1) := by decide +kernel
theorem dX6_findNearest_42 : decode cX6_findNearest 42 = .ok (.getfield 36, 3) := by decide +kernel
theorem dX6_findNearest_45 : decode cX6_findNearest 45 = .ok (.getfield 66, 3) := by decide +kernel
theorem dX6_findNearest_48 : decode cX6_findNearest 48 = .ok (.if_icmp .ge 55, 3) := by decide +kernel
theorem dX6_findNearest_51 : decode cX6_findNearest 51 = .ok (.aload_n 0, 1) := by decide +kernel
theorem dX6_findNearest_52 : decode cX6_findNearest 52 = .ok (.getfield 23, 3) := by decide +kernel
theorem dX6_findNearest_55 : decode cX6_findNearest 55 = .ok (.iconst (-1), 1) := by decide +kernel
theorem dX6_findNearest_56 : decode cX6_findNearest 56 = .ok (.if_icmp .ne 47, 3) := by decide +kernel
theorem dX6_findNearest_59 : decode cX6_findNearest 59 = .ok (.aload_n 0, 1) := by decide +kernel
theorem dX6_findNearest_60 : decode cX6_findNearest 60 = .ok (.aload_n 1, 1) := by decide +kernel
theorem dX6_findNearest_61 : decode cX6_findNearest 61 = .ok (.iload_n 3, 1) := by decide +kernel
theorem dX6_findNearest_62 : decode cX6_findNearest 62 = .ok (.invokevirtual 84, 3) := by decide +kernel
theorem dX6_findNearest_65 : decode cX6_findNearest 65 = .ok (.istore 4, 2) := by decide +kernel
theorem dX6_findNearest_67 : decode cX6_findNearest 67 = .ok (.iload 4, 2) := by decide +kernel
theorem dX6_findNearest_69 : decode cX6_findNearest 69 = .ok (.iconst (-1), 1) := by decide +kernel
theorem dX6_findNearest_70 : decode cX6_findNearest 70 = .ok (.if_icmp .eq 14, 3) := by decide +kernel
theorem dX6_findNearest_73 : decode cX6_findNearest 73 = .ok (.aload_n 0, 1) := by decide +kernel
theorem dX6_findNearest_74 : decode cX6_findNearest 74 = .ok (.iload_n 3, 1) := by decide +kernel
theorem dX6_findNearest_75 : decode cX6_findNearest 75 = .ok (.putfield 23, 3) := by decide +kernel
theorem dX6_findNearest_78 : decode cX6_findNearest 78 = .ok (.aload_n 0, 1) := by decide +kernel
theorem dX6_findNearest_79 : decode cX6_findNearest 79 = .ok (.iload 4, 2) := by decide +kernel
theorem dX6_findNearest_81 : decode cX6_findNearest 81 = .ok (.putfield 27, 3) := by decide +kernel
theorem dX6_findNearest_84 : decode cX6_findNearest 84 = .ok (.aload_n 0, 1) := by decide +kernel
theorem dX6_findNearest_85 : decode cX6_findNearest 85 = .ok (.getfield 30, 3) := by decide +kernel
theorem dX6_findNearest_88 : decode cX6_findNearest 88 = .ok (.iload_n 3, 1) := by decide +kernel
theorem dX6_findNearest_89 : decode cX6_findNearest 89 = .ok (.aload_n 2, 1) := by decide +kernel
theorem dX6_findNearest_90 : decode cX6_findNearest 90 = .ok (.iload_n 3, 1) := by decide +kernel
theorem dX6_findNearest_91 : decode cX6_findNearest 91 = .ok (.invokevirtual 73, 3) := by decide +kernel
theorem dX6_findNearest_94 : decode cX6_findNearest 94 = .ok (.invokevirtual 77, 3) := by decide +kernel
theorem dX6_findNearest_97 : decode cX6_findNearest 97 = .ok (.iinc 3 1, 3) := by decide +kernel
theorem dX6_findNearest_100 : decode cX6_findNearest 100 = .ok (.goto (-60), 3) := by decide +kernel
theorem dX6_findNearest_103 : decode cX6_findNearest 103 = .ok (.return_, 1) := by decide +kernel
theorem dX6_leaveOutOnce_0 : decode cX6_leaveOutOnce 0 = .ok (.iconst 0, 1) := by decide +kernel
theorem dX6_leaveOutOnce_1 : decode cX6_leaveOutOnce 1 = .ok (.istore_n 2, 1) := by decide +kernel
theorem dX6_leaveOutOnce_2 : decode cX6_leaveOutOnce 2 = .ok (.iconst 0, 1) := by decide +kernel
theorem dX6_leaveOutOnce_3 : decode cX6_leaveOutOnce 3 = .ok (.istore_n 3, 1) := by decide +kernel
theorem dX6_leaveOutOnce_4 : decode cX6_leaveOutOnce 4 = .ok (.iconst 0, 1) := by decide +kernel
theorem dX6_leaveOutOnce_5 : decode cX6_leaveOutOnce 5 = .ok (.istore 4, 2) := by decide +kernel
theorem dX6_leaveOutOnce_7 : decode cX6_leaveOutOnce 7 = .ok (.iload 4, 2) := by decide +kernel
theorem dX6_leaveOutOnce_9 : decode cX6_leaveOutOnce 9 = .ok (.bipush 24, 2) := by decide +kernel
theorem dX6_leaveOutOnce_11 : decode cX6_leaveOutOnce 11 = .ok (.if_icmp .ge 77, 3) := by decide +kernel
theorem dX6_leaveOutOnce_14 : decode cX6_leaveOutOnce 14 = .ok (.iload_n 3, 1) := by decide +kernel
theorem dX6_leaveOutOnce_15 : decode cX6_leaveOutOnce 15 = .ok (.aload_n 0, 1) := by decide +kernel
theorem dX6_leaveOutOnce_16 : decode cX6_leaveOutOnce 16 = .ok (.getfield 14, 3) := by decide +kernel
theorem dX6_leaveOutOnce_19 : decode cX6_leaveOutOnce 19 = .ok (.getfield 59, 3) := by decide +kernel
theorem dX6_leaveOutOnce_22 : decode cX6_leaveOutOnce 22 = .ok (.if_icmp .ge 66, 3) := by decide +kernel
theorem dX6_leaveOutOnce_25 : decode cX6_leaveOutOnce 25 = .ok (.aload_n 0, 1) := by decide +kernel
theorem dX6_leaveOutOnce_26 : decode cX6_leaveOutOnce 26 = .ok (.getfield 30, 3) := by decide +kernel
theorem dX6_leaveOutOnce_29 : decode cX6_leaveOutOnce 29 = .ok (.aload_n 0, 1) := by decide +kernel
theorem dX6_leaveOutOnce_30 : decode cX6_leaveOutOnce 30 = .ok (.getfield 14, 3) := by decide +kernel
theorem dX6_leaveOutOnce_33 : decode cX6_leaveOutOnce 33 = .ok (.iload_n 3, 1) := by decide +kernel
theorem dX6_leaveOutOnce_34 : decode cX6_leaveOutOnce 34 = .ok (.invokevirtual 88, 3) := by decide +kernel
theorem dX6_leaveOutOnce_37 : decode cX6_leaveOutOnce 37 = .ok (.aload_n 0, 1) := by decide +kernel
theorem dX6_leaveOutOnce_38 : decode cX6_leaveOutOnce 38 = .ok (.getfield 40, 3) := by decide +kernel
theorem dX6_leaveOutOnce_41 : decode cX6_leaveOutOnce 41 = .ok (.aload_n 1, 1) := by decide +kernel
theorem dX6_leaveOutOnce_42 : decode cX6_leaveOutOnce 42 = .ok (.aload_n 0, 1) := by decide +kernel
theorem dX6_leaveOutOnce_43 : decode cX6_leaveOutOnce 43 = .ok (.getfield 30, 3) := by decide +kernel
theorem dX6_leaveOutOnce_46 : decode cX6_leaveOutOnce 46 = .ok (.invokevirtual 43, 3) := by decide +kernel
theorem dX6_leaveOutOnce_49 : decode cX6_leaveOutOnce 49 = .ok (.aload_n 0, 1) := by decide +kernel
theorem dX6_leaveOutOnce_50 : decode cX6_leaveOutOnce 50 = .ok (.getfield 40, 3) := by decide +kernel
theorem dX6_leaveOutOnce_53 : decode cX6_leaveOutOnce 53 = .ok (.aload_n 0, 1) := by decide +kernel
theorem dX6_leaveOutOnce_54 : decode cX6_leaveOutOnce 54 = .ok (.getfield 36, 3) := by decide +kernel
theorem dX6_leaveOutOnce_57 : decode cX6_leaveOutOnce 57 = .ok (.invokevirtual 92, 3) := by decide +kernel
theorem dX6_leaveOutOnce_60 : decode cX6_leaveOutOnce 60 = .ok (.ifCond .eq 19, 3) := by decide +kernel
theorem dX6_leaveOutOnce_63 : decode cX6_leaveOutOnce 63 = .ok (.aload_n 0, 1) := by decide +kernel
theorem dX6_leaveOutOnce_64 : decode cX6_leaveOutOnce 64 = .ok (.getfield 14, 3) := by decide +kernel
theorem dX6_leaveOutOnce_67 : decode cX6_leaveOutOnce 67 = .ok (.aload_n 0, 1) := by decide +kernel
theorem dX6_leaveOutOnce_68 : decode cX6_leaveOutOnce 68 = .ok (.getfield 30, 3) := by decide +kernel
theorem dX6_leaveOutOnce_71 : decode cX6_leaveOutOnce 71 = .ok (.invokevirtual 51, 3) := by decide +kernel
theorem dX6_leaveOutOnce_74 : decode cX6_leaveOutOnce 74 = .ok (.iconst 1, 1) := by decide +kernel
theorem dX6_leaveOutOnce_75 : decode cX6_leaveOutOnce 75 = .ok (.istore_n 2, 1) := by decide +kernel
theorem dX6_leaveOutOnce_76 : decode cX6_leaveOutOnce 76 = .ok (.goto 6, 3) := by decide +kernel
theorem dX6_leaveOutOnce_79 : decode cX6_leaveOutOnce 79 = .ok (.iinc 3 1, 3) := by decide +kernel
theorem dX6_leaveOutOnce_82 : decode cX6_leaveOutOnce 82 = .ok (.iinc 4 1, 3) := by decide +kernel
theorem dX6_leaveOutOnce_85 : decode cX6_leaveOutOnce 85 = .ok (.goto (-78), 3) := by decide +kernel
theorem dX6_leaveOutOnce_88 : decode cX6_leaveOutOnce 88 = .ok (.iload_n 2, 1) := by decide +kernel
theorem dX6_leaveOutOnce_89 : decode cX6_leaveOutOnce 89 = .ok (.ireturn, 1) := by decide +kernel
theorem dX6_lowerByte_0 : decode cX6_lowerByte 0 = .ok (.aload_n 0, 1) := by decide +kernel
theorem dX6_lowerByte_1 : decode cX6_lowerByte 1 = .ok (.getfield 20, 3) := by decide +kernel
theorem dX6_lowerByte_4 : decode cX6_lowerByte 4 = .ok (.iload_n 2, 1) := by decide +kernel
theorem dX6_lowerByte_5 : decode cX6_lowerByte 5 = .ok (.invokevirtual 73, 3) := by decide +kernel
theorem dX6_lowerByte_8 : decode cX6_lowerByte 8 = .ok (.istore_n 3, 1) := by decide +kernel
theorem dX6_lowerByte_9 : decode cX6_lowerByte 9 = .ok (.iconst 0, 1) := by decide +kernel
theorem dX6_lowerByte_10 : decode cX6_lowerByte 10 = .ok (.istore 4, 2) := by decide +kernel
theorem dX6_lowerByte_12 : decode cX6_lowerByte 12 = .ok (.iload 4, 2) := by decide +kernel
theorem dX6_lowerByte_14 : decode cX6_lowerByte 14 = .ok (.iload_n 3, 1) := by decide +kernel
theorem dX6_lowerByte_15 : decode cX6_lowerByte 15 = .ok (.if_icmp .ge 46, 3) := by decide +kernel
theorem dX6_lowerByte_18 : decode cX6_lowerByte 18 = .ok (.aload_n 0, 1) := by decide +kernel
theorem dX6_lowerByte_19 : decode cX6_lowerByte 19 = .ok (.getfield 20, 3) := by decide +kernel
theorem dX6_lowerByte_22 : decode cX6_lowerByte 22 = .ok (.iload_n 2, 1) := by decide +kernel
theorem dX6_lowerByte_23 : decode cX6_lowerByte 23 = .ok (.iload 4, 2) := by decide +kernel
theorem dX6_lowerByte_25 : decode cX6_lowerByte 25 = .ok (.invokevirtual 77, 3) := by decide +kernel
theorem dX6_lowerByte_28 : decode cX6_lowerByte 28 = .ok (.aload_n 0, 1) := by decide +kernel
theorem dX6_lowerByte_29 : decode cX6_lowerByte 29 = .ok (.getfield 40, 3) := by decide +kernel
theorem dX6_lowerByte_32 : decode cX6_lowerByte 32 = .ok (.aload_n 1, 1) := by decide +kernel
theorem dX6_lowerByte_33 : decode cX6_lowerByte 33 = .ok (.aload_n 0, 1) := by decide +kernel
theorem dX6_lowerByte_34 : decode cX6_lowerByte 34 = .ok (.getfield 20, 3) := by decide +kernel
theorem dX6_lowerByte_37 : decode cX6_lowerByte 37 = .ok (.invokevirtual 43, 3) := by decide +kernel
theorem dX6_lowerByte_40 : decode cX6_lowerByte 40 = .ok (.aload_n 0, 1) := by decide +kernel
theorem dX6_lowerByte_41 : decode cX6_lowerByte 41 = .ok (.getfield 40, 3) := by decide +kernel
theorem dX6_lowerByte_44 : decode cX6_lowerByte 44 = .ok (.aload_n 0, 1) := by decide +kernel
theorem dX6_lowerByte_45 : decode cX6_lowerByte 45 = .ok (.getfield 36, 3) := by decide +kernel
theorem dX6_lowerByte_48 : decode cX6_lowerByte 48 = .ok (.invokevirtual 92, 3) := by decide +kernel
theorem dX6_lowerByte_51 : decode cX6_lowerByte 51 = .ok (.ifCond .eq 4, 3) := by decide +kernel
theorem dX6_lowerByte_54 : decode cX6_lowerByte 54 = .ok (.return_, 1) := by decide +kernel
theorem dX6_lowerByte_55 : decode cX6_lowerByte 55 = .ok (.iinc 4 1, 3) := by decide +kernel
theorem dX6_lowerByte_58 : decode cX6_lowerByte 58 = .ok (.goto (-46), 3) := by decide +kernel
theorem dX6_lowerByte_61 : decode cX6_lowerByte 61 = .ok (.aload_n 0, 1) := by decide +kernel
theorem dX6_lowerByte_62 : decode cX6_lowerByte 62 = .ok (.getfield 20, 3) := by decide +kernel
theorem dX6_lowerByte_65 : decode cX6_lowerByte 65 = .ok (.iload_n 2, 1) := by decide +kernel
theorem dX6_lowerByte_66 : decode cX6_lowerByte 66 = .ok (.iload_n 3, 1) := by decide +kernel
theorem dX6_lowerByte_67 : decode cX6_lowerByte 67 = .ok (.invokevirtual 77, 3) := by decide +kernel
theorem dX6_lowerByte_70 : decode cX6_lowerByte 70 = .ok (.return_, 1) := by decide +kernel
theorem dX6_byteRules_0 : decode cX6_byteRules 0 = .ok (.iconst 0, 1) := by decide +kernel
theorem dX6_byteRules_1 : decode cX6_byteRules 1 = .ok (.istore_n 3, 1) := by decide +kernel
theorem dX6_byteRules_2 : decode cX6_byteRules 2 = .ok (.iload_n 3, 1) := by decide +kernel
theorem dX6_byteRules_3 : decode cX6_byteRules 3 = .ok (.sipush 256, 3) := by decide +kernel
theorem dX6_byteRules_6 : decode cX6_byteRules 6 = .ok (.if_icmp .ge 83, 3) := by decide +kernel
theorem dX6_byteRules_9 : decode cX6_byteRules 9 = .ok (.aload_n 0, 1) := by decide +kernel
theorem dX6_byteRules_10 : decode cX6_byteRules 10 = .ok (.getfield 30, 3) := by decide +kernel
theorem dX6_byteRules_13 : decode cX6_byteRules 13 = .ok (.iload_n 2, 1) := by decide +kernel
theorem dX6_byteRules_14 : decode cX6_byteRules 14 = .ok (.iload_n 3, 1) := by decide +kernel
theorem dX6_byteRules_15 : decode cX6_byteRules 15 = .ok (.invokevirtual 77, 3) := by decide +kernel
theorem dX6_byteRules_18 : decode cX6_byteRules 18 = .ok (.aload_n 0, 1) := by decide +kernel
theorem dX6_byteRules_19 : decode cX6_byteRules 19 = .ok (.getfield 40, 3) := by decide +kernel
theorem dX6_byteRules_22 : decode cX6_byteRules 22 = .ok (.aload_n 1, 1) := by decide +kernel
theorem dX6_byteRules_23 : decode cX6_byteRules 23 = .ok (.aload_n 0, 1) := by decide +kernel
theorem dX6_byteRules_24 : decode cX6_byteRules 24 = .ok (.getfield 30, 3) := by decide +kernel
theorem dX6_byteRules_27 : decode cX6_byteRules 27 = .ok (.invokevirtual 43, 3) := by decide +kernel
theorem dX6_byteRules_30 : decode cX6_byteRules 30 = .ok (.aload_n 0, 1) := by decide +kernel
theorem dX6_byteRules_31 : decode cX6_byteRules 31 = .ok (.getfield 40, 3) := by decide +kernel
theorem dX6_byteRules_34 : decode cX6_byteRules 34 = .ok (.getfield 81, 3) := by decide +kernel
theorem dX6_byteRules_37 : decode cX6_byteRules 37 = .ok (.aload_n 0, 1) := by decide +kernel
theorem dX6_byteRules_38 : decode cX6_byteRules 38 = .ok (.getfield 36, 3) := by decide +kernel
theorem dX6_byteRules_41 : decode cX6_byteRules 41 = .ok (.getfield 81, 3) := by decide +kernel
theorem dX6_byteRules_44 : decode cX6_byteRules 44 = .ok (.if_icmp .ne 39, 3) := by decide +kernel
theorem dX6_byteRules_47 : decode cX6_byteRules 47 = .ok (.aload_n 0, 1) := by decide +kernel
theorem dX6_byteRules_48 : decode cX6_byteRules 48 = .ok (.getfield 40, 3) := by decide +kernel
theorem dX6_byteRules_51 : decode cX6_byteRules 51 = .ok (.getfield 96, 3) := by decide +kernel
theorem dX6_byteRules_54 : decode cX6_byteRules 54 = .ok (.aload_n 0, 1) := by decide +kernel
theorem dX6_byteRules_55 : decode cX6_byteRules 55 = .ok (.getfield 36, 3) := by decide +kernel
theorem dX6_byteRules_58 : decode cX6_byteRules 58 = .ok (.getfield 96, 3) := by decide +kernel
theorem dX6_byteRules_61 : decode cX6_byteRules 61 = .ok (.if_icmp .ne 22, 3) := by decide +kernel
theorem dX6_byteRules_64 : decode cX6_byteRules 64 = .ok (.aload_n 0, 1) := by decide +kernel
theorem dX6_byteRules_65 : decode cX6_byteRules 65 = .ok (.getfield 40, 3) := by decide +kernel
theorem dX6_byteRules_68 : decode cX6_byteRules 68 = .ok (.getfield 99, 3) := by decide +kernel
theorem dX6_byteRules_71 : decode cX6_byteRules 71 = .ok (.aload_n 0, 1) := by decide +kernel
theorem dX6_byteRules_72 : decode cX6_byteRules 72 = .ok (.getfield 36, 3) := by decide +kernel
theorem dX6_byteRules_75 : decode cX6_byteRules 75 = .ok (.getfield 99, 3) := by decide +kernel
theorem dX6_byteRules_78 : decode cX6_byteRules 78 = .ok (.if_icmp .eq 5, 3) := by decide +kernel
theorem dX6_byteRules_81 : decode cX6_byteRules 81 = .ok (.iconst 1, 1) := by decide +kernel
theorem dX6_byteRules_82 : decode cX6_byteRules 82 = .ok (.ireturn, 1) := by decide +kernel
theorem dX6_byteRules_83 : decode cX6_byteRules 83 = .ok (.iinc 3 1, 3) := by decide +kernel
theorem dX6_byteRules_86 : decode cX6_byteRules 86 = .ok (.goto (-84), 3) := by decide +kernel
theorem dX6_byteRules_89 : decode cX6_byteRules 89 = .ok (.iconst 0, 1) := by decide +kernel
theorem dX6_byteRules_90 : decode cX6_byteRules 90 = .ok (.ireturn, 1) := by decide +kernel
theorem dX6_leastThatEndsWell_0 : decode cX6_leastThatEndsWell 0 = .ok (.iconst 0, 1) := by decide +kernel
theorem dX6_leastThatEndsWell_1 : decode cX6_leastThatEndsWell 1 = .ok (.istore_n 3, 1) := by decide +kernel
theorem dX6_leastThatEndsWell_2 : decode cX6_leastThatEndsWell 2 = .ok (.iload_n 3, 1) := by decide +kernel
theorem dX6_leastThatEndsWell_3 : decode cX6_leastThatEndsWell 3 = .ok (.sipush 256, 3) := by decide +kernel
theorem dX6_leastThatEndsWell_6 : decode cX6_leastThatEndsWell 6 = .ok (.if_icmp .ge 42, 3) := by decide +kernel
theorem dX6_leastThatEndsWell_9 : decode cX6_leastThatEndsWell 9 = .ok (.aload_n 0, 1) := by decide +kernel
theorem dX6_leastThatEndsWell_10 : decode cX6_leastThatEndsWell 10 = .ok (.getfield 30, 3) := by decide +kernel
theorem dX6_leastThatEndsWell_13 : decode cX6_leastThatEndsWell 13 = .ok (.iload_n 2, 1) := by decide +kernel
theorem dX6_leastThatEndsWell_14 : decode cX6_leastThatEndsWell 14 = .ok (.iload_n 3, 1) := by decide +kernel
theorem dX6_leastThatEndsWell_15 : decode cX6_leastThatEndsWell 15 = .ok (.invokevirtual 77, 3) := by decide +kernel
theorem dX6_leastThatEndsWell_18 : decode cX6_leastThatEndsWell 18 = .ok (.aload_n 0, 1) := by decide +kernel
theorem dX6_leastThatEndsWell_19 : decode cX6_leastThatEndsWell 19 = .ok (.getfield 40, 3) := by decide +kernel
theorem dX6_leastThatEndsWell_22 : decode cX6_leastThatEndsWell 22 = .ok (.aload_n 1, 1) := by decide +kernel
theorem dX6_leastThatEndsWell_23 : decode cX6_leastThatEndsWell 23 = .ok (.aload_n 0, 1) := by decide +kernel
theorem dX6_leastThatEndsWell_24 : decode cX6_leastThatEndsWell 24 = .ok (.getfield 30, 3) := by decide +kernel
theorem dX6_leastThatEndsWell_27 : decode cX6_leastThatEndsWell 27 = .ok (.invokevirtual 43, 3) := by decide +kernel
theorem dX6_leastThatEndsWell_30 : decode cX6_leastThatEndsWell 30 = .ok (.aload_n 0, 1) := by decide +kernel
theorem dX6_leastThatEndsWell_31 : decode cX6_leastThatEndsWell 31 = .ok (.getfield 40, 3) := by decide +kernel
theorem dX6_leastThatEndsWell_34 : decode cX6_leastThatEndsWell 34 = .ok (.getfield 81, 3) := by decide +kernel
theorem dX6_leastThatEndsWell_37 : decode cX6_leastThatEndsWell 37 = .ok (.ifCond .ne 5, 3) := by decide +kernel
theorem dX6_leastThatEndsWell_40 : decode cX6_leastThatEndsWell 40 = .ok (.iload_n 3, 1) := by decide +kernel
theorem dX6_leastThatEndsWell_41 : decode cX6_leastThatEndsWell 41 = .ok (.ireturn, 1) := by decide +kernel
theorem dX6_leastThatEndsWell_42 : decode cX6_leastThatEndsWell 42 = .ok (.iinc 3 1, 3) := by decide +kernel
theorem dX6_leastThatEndsWell_45 : decode cX6_leastThatEndsWell 45 = .ok (.goto (-43), 3) := by decide +kernel
theorem dX6_leastThatEndsWell_48 : decode cX6_leastThatEndsWell 48 = .ok (.iconst (-1), 1) := by decide +kernel
theorem dX6_leastThatEndsWell_49 : decode cX6_leastThatEndsWell 49 = .ok (.ireturn, 1) := by decide +kernel
theorem dX7_init_0 : decode cX7_init 0 = .ok (.aload_n 0, 1) := by decide +kernel
theorem dX7_init_1 : decode cX7_init 1 = .ok (.invokespecial 3, 3) := by decide +kernel
theorem dX7_init_4 : decode cX7_init 4 = .ok (.aload_n 0, 1) := by decide +kernel
theorem dX7_init_5 : decode cX7_init 5 = .ok (.new 9, 3) := by decide +kernel
theorem dX7_init_8 : decode cX7_init 8 = .ok (.dup, 1) := by decide +kernel
theorem dX7_init_9 : decode cX7_init 9 = .ok (.sipush 1000, 3) := by decide +kernel
theorem dX7_init_12 : decode cX7_init 12 = .ok (.invokespecial 11, 3) := by decide +kernel
theorem dX7_init_15 : decode cX7_init 15 = .ok (.putfield 14, 3) := by decide +kernel
theorem dX7_init_18 : decode cX7_init 18 = .ok (.aload_n 0, 1) := by decide +kernel
theorem dX7_init_19 : decode cX7_init 19 = .ok (.iconst 3, 1) := by decide +kernel
theorem dX7_init_20 : decode cX7_init 20 = .ok (.anewarray 18, 3) := by decide +kernel
theorem dX7_init_23 : decode cX7_init 23 = .ok (.putfield 20, 3) := by decide +kernel
theorem dX7_init_26 : decode cX7_init 26 = .ok (.aload_n 0, 1) := by decide +kernel
theorem dX7_init_27 : decode cX7_init 27 = .ok (.new 24, 3) := by decide +kernel
theorem dX7_init_30 : decode cX7_init 30 = .ok (.dup, 1) := by decide +kernel
theorem dX7_init_31 : decode cX7_init 31 = .ok (.invokespecial 26, 3) := by decide +kernel
theorem dX7_init_34 : decode cX7_init 34 = .ok (.putfield 27, 3) := by decide +kernel
theorem dX7_init_37 : decode cX7_init 37 = .ok (.aload_n 0, 1) := by decide +kernel
theorem dX7_init_38 : decode cX7_init 38 = .ok (.bipush 30, 2) := by decide +kernel
theorem dX7_init_40 : decode cX7_init 40 = .ok (.anewarray 9, 3) := by decide +kernel
theorem dX7_init_43 : decode cX7_init 43 = .ok (.putfield 31, 3) := by decide +kernel
theorem dX7_init_46 : decode cX7_init 46 = .ok (.aload_n 0, 1) := by decide +kernel
theorem dX7_init_47 : decode cX7_init 47 = .ok (.new 35, 3) := by decide +kernel
theorem dX7_init_50 : decode cX7_init 50 = .ok (.dup, 1) := by decide +kernel
theorem dX7_init_51 : decode cX7_init 51 = .ok (.invokespecial 37, 3) := by decide +kernel
theorem dX7_init_54 : decode cX7_init 54 = .ok (.putfield 38, 3) := by decide +kernel
theorem dX7_init_57 : decode cX7_init 57 = .ok (.aload_n 0, 1) := by decide +kernel
theorem dX7_init_58 : decode cX7_init 58 = .ok (.new 35, 3) := by decide +kernel
theorem dX7_init_61 : decode cX7_init 61 = .ok (.dup, 1) := by decide +kernel
theorem dX7_init_62 : decode cX7_init 62 = .ok (.invokespecial 37, 3) := by decide +kernel
theorem dX7_init_65 : decode cX7_init 65 = .ok (.putfield 42, 3) := by decide +kernel
theorem dX7_init_68 : decode cX7_init 68 = .ok (.aload_n 0, 1) := by decide +kernel
theorem dX7_init_69 : decode cX7_init 69 = .ok (.new 35, 3) := by decide +kernel
theorem dX7_init_72 : decode cX7_init 72 = .ok (.dup, 1) := by decide +kernel
theorem dX7_init_73 : decode cX7_init 73 = .ok (.invokespecial 37, 3) := by decide +kernel
theorem dX7_init_76 : decode cX7_init 76 = .ok (.putfield 45, 3) := by decide +kernel
theorem dX7_init_79 : decode cX7_init 79 = .ok (.aload_n 0, 1) := by decide +kernel
theorem dX7_init_80 : decode cX7_init 80 = .ok (.new 48, 3) := by decide +kernel
theorem dX7_init_83 : decode cX7_init 83 = .ok (.dup, 1) := by decide +kernel
theorem dX7_init_84 : decode cX7_init 84 = .ok (.invokespecial 50, 3) := by decide +kernel
theorem dX7_init_87 : decode cX7_init 87 = .ok (.putfield 51, 3) := by decide +kernel
theorem dX7_init_90 : decode cX7_init 90 = .ok (.aload_n 0, 1) := by decide +kernel
theorem dX7_init_91 : decode cX7_init 91 = .ok (.new 55, 3) := by decide +kernel
theorem dX7_init_94 : decode cX7_init 94 = .ok (.dup, 1) := by decide +kernel
theorem dX7_init_95 : decode cX7_init 95 = .ok (.invokespecial 57, 3) := by decide +kernel
theorem dX7_init_98 : decode cX7_init 98 = .ok (.putfield 58, 3) := by decide +kernel
theorem dX7_init_101 : decode cX7_init 101 = .ok (.aload_n 0, 1) := by decide +kernel
theorem dX7_init_102 : decode cX7_init 102 = .ok (.iconst 0, 1) := by decide +kernel
theorem dX7_init_103 : decode cX7_init 103 = .ok (.putfield 62, 3) := by decide +kernel
theorem dX7_init_106 : decode cX7_init 106 = .ok (.aload_n 0, 1) := by decide +kernel
theorem dX7_init_107 : decode cX7_init 107 = .ok (.iconst 0, 1) := by decide +kernel
theorem dX7_init_108 : decode cX7_init 108 = .ok (.putfield 66, 3) := by decide +kernel
theorem dX7_init_111 : decode cX7_init 111 = .ok (.iconst 0, 1) := by decide +kernel
theorem dX7_init_112 : decode cX7_init 112 = .ok (.istore_n 1, 1) := by decide +kernel
theorem dX7_init_113 : decode cX7_init 113 = .ok (.iload_n 1, 1) := by decide +kernel
theorem dX7_init_114 : decode cX7_init 114 = .ok (.iconst 3, 1) := by decide +kernel
theorem dX7_init_115 : decode cX7_init 115 = .ok (.if_icmp .ge 22, 3) := by decide +kernel
theorem dX7_init_118 : decode cX7_init 118 = .ok (.aload_n 0, 1) := by decide +kernel
theorem dX7_init_119 : decode cX7_init 119 = .ok (.getfield 20, 3) := by decide +kernel
theorem dX7_init_122 : decode cX7_init 122 = .ok (.iload_n 1, 1) := by decide +kernel
theorem dX7_init_123 : decode cX7_init 123 = .ok (.new 18, 3) := by decide +kernel
theorem dX7_init_126 : decode cX7_init 126 = .ok (.dup, 1) := by decide +kernel
theorem dX7_init_127 : decode cX7_init 127 = .ok (.invokespecial 70, 3) := by decide +kernel
theorem dX7_init_130 : decode cX7_init 130 = .ok (.aastore, 1) := by decide +kernel
theorem dX7_init_131 : decode cX7_init 131 = .ok (.iinc 1 1, 3) := by decide +kernel
theorem dX7_init_134 : decode cX7_init 134 = .ok (.goto (-21), 3) := by decide +kernel
theorem dX7_init_137 : decode cX7_init 137 = .ok (.iconst 0, 1) := by decide +kernel
theorem dX7_init_138 : decode cX7_init 138 = .ok (.istore_n 1, 1) := by decide +kernel
theorem dX7_init_139 : decode cX7_init 139 = .ok (.iload_n 1, 1) := by decide +kernel
theorem dX7_init_140 : decode cX7_init 140 = .ok (.bipush 30, 2) := by decide +kernel
theorem dX7_init_142 : decode cX7_init 142 = .ok (.if_icmp .ge 24, 3) := by decide +kernel
theorem dX7_init_145 : decode cX7_init 145 = .ok (.aload_n 0, 1) := by decide +kernel
theorem dX7_init_146 : decode cX7_init 146 = .ok (.getfield 31, 3) := by decide +kernel
theorem dX7_init_149 : decode cX7_init 149 = .ok (.iload_n 1, 1) := by decide +kernel
theorem dX7_init_150 : decode cX7_init 150 = .ok (.new 9, 3) := by decide +kernel
theorem dX7_init_153 : decode cX7_init 153 = .ok (.dup, 1) := by decide +kernel
theorem dX7_init_154 : decode cX7_init 154 = .ok (.bipush 24, 2) := by decide +kernel
theorem dX7_init_156 : decode cX7_init 156 = .ok (.invokespecial 11, 3) := by decide +kernel
theorem dX7_init_159 : decode cX7_init 159 = .ok (.aastore, 1) := by decide +kernel
theorem dX7_init_160 : decode cX7_init 160 = .ok (.iinc 1 1, 3) := by decide +kernel
theorem dX7_init_163 : decode cX7_init 163 = .ok (.goto (-24), 3) := by decide +kernel
theorem dX7_init_166 : decode cX7_init 166 = .ok (.return_, 1) := by decide +kernel
theorem dX7_feed_0 : decode cX7_feed 0 = .ok (.aload_n 0, 1) := by decide +kernel
theorem dX7_feed_1 : decode cX7_feed 1 = .ok (.getfield 14, 3) := by decide +kernel
theorem dX7_feed_4 : decode cX7_feed 4 = .ok (.getfield 71, 3) := by decide +kernel
theorem dX7_feed_7 : decode cX7_feed 7 = .ok (.bipush 20, 2) := by decide +kernel
theorem dX7_feed_9 : decode cX7_feed 9 = .ok (.iadd, 1) := by decide +kernel
theorem dX7_feed_10 : decode cX7_feed 10 = .ok (.sipush 1000, 3) := by decide +kernel
theorem dX7_feed_13 : decode cX7_feed 13 = .ok (.if_icmp .le 5, 3) := by decide +kernel
theorem dX7_feed_16 : decode cX7_feed 16 = .ok (.iconst (-1), 1) := by decide +kernel
theorem dX7_feed_17 : decode cX7_feed 17 = .ok (.ireturn, 1) := by decide +kernel
theorem dX7_feed_18 : decode cX7_feed 18 = .ok (.aload_n 0, 1) := by decide +kernel
theorem dX7_feed_19 : decode cX7_feed 19 = .ok (.iload_n 1, 1) := by decide +kernel
theorem dX7_feed_20 : decode cX7_feed 20 = .ok (.invokevirtual 74, 3) := by decide +kernel
theorem dX7_feed_23 : decode cX7_feed 23 = .ok (.aload_n 0, 1) := by decide +kernel
theorem dX7_feed_24 : decode cX7_feed 24 = .ok (.iload_n 2, 1) := by decide +kernel
theorem dX7_feed_25 : decode cX7_feed 25 = .ok (.invokevirtual 74, 3) := by decide +kernel
theorem dX7_feed_28 : decode cX7_feed 28 = .ok (.aload_n 0, 1) := by decide +kernel
theorem dX7_feed_29 : decode cX7_feed 29 = .ok (.iload_n 3, 1) := by decide +kernel
theorem dX7_feed_30 : decode cX7_feed 30 = .ok (.invokevirtual 74, 3) := by decide +kernel
theorem dX7_feed_33 : decode cX7_feed 33 = .ok (.aload_n 0, 1) := by decide +kernel
theorem dX7_feed_34 : decode cX7_feed 34 = .ok (.iload 4, 2) := by decide +kernel
theorem dX7_feed_36 : decode cX7_feed 36 = .ok (.invokevirtual 74, 3) := by decide +kernel
theorem dX7_feed_39 : decode cX7_feed 39 = .ok (.aload_n 0, 1) := by decide +kernel
theorem dX7_feed_40 : decode cX7_feed 40 = .ok (.iload 5, 2) := by decide +kernel
theorem dX7_feed_42 : decode cX7_feed 42 = .ok (.invokevirtual 74, 3) := by decide +kernel
theorem dX7_feed_45 : decode cX7_feed 45 = .ok (.aload_n 0, 1) := by decide +kernel
theorem dX7_feed_46 : decode cX7_feed 46 = .ok (.getfield 14, 3) := by decide +kernel
theorem dX7_feed_49 : decode cX7_feed 49 = .ok (.getfield 71, 3) := by decide +kernel
theorem dX7_feed_52 : decode cX7_feed 52 = .ok (.ireturn, 1) := by decide +kernel
theorem dX7_end_0 : decode cX7_end 0 = .ok (.iload_n 1, 1) := by decide +kernel
theorem dX7_end_1 : decode cX7_end 1 = .ok (.ifCond .lt 14, 3) := by decide +kernel
theorem dX7_end_4 : decode cX7_end 4 = .ok (.iload_n 1, 1) := by decide +kernel
theorem dX7_end_5 : decode cX7_end 5 = .ok (.aload_n 0, 1) := by decide +kernel
theorem dX7_end_6 : decode cX7_end 6 = .ok (.getfield 14, 3) := by decide +kernel
theorem dX7_end_9 : decode cX7_end 9 = .ok (.getfield 71, 3) := by decide +kernel
theorem dX7_end_12 : decode cX7_end 12 = .ok (.if_icmp .le 5, 3) := by decide +kernel
theorem dX7_end_15 : decode cX7_end 15 = .ok (.iconst (-1), 1) := by decide +kernel
theorem dX7_end_16 : decode cX7_end 16 = .ok (.ireturn, 1) := by decide +kernel
theorem dX7_end_17 : decode cX7_end 17 = .ok (.aload_n 0, 1) := by decide +kernel
theorem dX7_end_18 : decode cX7_end 18 = .ok (.getfield 14, 3) := by decide +kernel
theorem dX7_end_21 : decode cX7_end 21 = .ok (.iload_n 1, 1) := by decide +kernel
theorem dX7_end_22 : decode cX7_end 22 = .ok (.putfield 71, 3) := by decide +kernel
theorem dX7_end_25 : decode cX7_end 25 = .ok (.iload_n 1, 1) := by decide +kernel
theorem dX7_end_26 : decode cX7_end 26 = .ok (.ireturn, 1) := by decide +kernel
theorem dX7_program_0 : decode cX7_program 0 = .ok (.iload_n 1, 1) := by decide +kernel
theorem dX7_program_1 : decode cX7_program 1 = .ok (.invokestatic 77, 3) := by decide +kernel
theorem dX7_program_4 : decode cX7_program 4 = .ok (.ifCond .ne 6, 3) := by decide +kernel
theorem dX7_program_7 : decode cX7_program 7 = .ok (.bipush (-2), 2) := by decide +kernel
theorem dX7_program_9 : decode cX7_program 9 = .ok (.ireturn, 1) := by decide +kernel
theorem dX7_program_10 : decode cX7_program 10 = .ok (.aload_n 0, 1) := by decide +kernel
theorem dX7_program_11 : decode cX7_program 11 = .ok (.getfield 27, 3) := by decide +kernel
theorem dX7_program_14 : decode cX7_program 14 = .ok (.aload_n 0, 1) := by decide +kernel
theorem dX7_program_15 : decode cX7_program 15 = .ok (.getfield 14, 3) := by decide +kernel
theorem dX7_program_18 : decode cX7_program 18 = .ok (.invokevirtual 81, 3) := by decide +kernel
theorem dX7_program_21 : decode cX7_program 21 = .ok (.aload_n 0, 1) := by decide +kernel
theorem dX7_program_22 : decode cX7_program 22 = .ok (.getfield 14, 3) := by decide +kernel
theorem dX7_program_25 : decode cX7_program 25 = .ok (.iconst 0, 1) := by decide +kernel
theorem dX7_program_26 : decode cX7_program 26 = .ok (.putfield 71, 3) := by decide +kernel
theorem dX7_program_29 : decode cX7_program 29 = .ok (.aload_n 0, 1) := by decide +kernel
theorem dX7_program_30 : decode cX7_program 30 = .ok (.getfield 27, 3) := by decide +kernel
theorem dX7_program_33 : decode cX7_program 33 = .ok (.getfield 85, 3) := by decide +kernel
theorem dX7_program_36 : decode cX7_program 36 = .ok (.ifCond .eq 5, 3) := by decide +kernel
theorem dX7_program_39 : decode cX7_program 39 = .ok (.iconst (-1), 1) := by decide +kernel
theorem dX7_program_40 : decode cX7_program 40 = .ok (.ireturn, 1) := by decide +kernel
theorem dX7_program_41 : decode cX7_program 41 = .ok (.aload_n 0, 1) := by decide +kernel
theorem dX7_program_42 : decode cX7_program 42 = .ok (.getfield 20, 3) := by decide +kernel
theorem dX7_program_45 : decode cX7_program 45 = .ok (.iload_n 1, 1) := by decide +kernel
theorem dX7_program_46 : decode cX7_program 46 = .ok (.aload_n 0, 1) := by decide +kernel
theorem dX7_program_47 : decode cX7_program 47 = .ok (.getfield 27, 3) := by decide +kernel
theorem dX7_program_50 : decode cX7_program 50 = .ok (.aload_n 0, 1) := by decide +kernel
theorem dX7_program_51 : decode cX7_program 51 = .ok (.getfield 20, 3) := by decide +kernel
theorem dX7_program_54 : decode cX7_program 54 = .ok (.iload_n 1, 1) := by decide +kernel
theorem dX7_program_55 : decode cX7_program 55 = .ok (.aaload, 1) := by decide +kernel
theorem dX7_program_56 : decode cX7_program 56 = .ok (.invokevirtual 88, 3) := by decide +kernel
theorem dX7_program_59 : decode cX7_program 59 = .ok (.aastore, 1) := by decide +kernel
theorem dX7_program_60 : decode cX7_program 60 = .ok (.aload_n 0, 1) := by decide +kernel
theorem dX7_program_61 : decode cX7_program 61 = .ok (.getfield 20, 3) := by decide +kernel
theorem dX7_program_64 : decode cX7_program 64 = .ok (.iload_n 1, 1) := by decide +kernel
theorem dX7_program_65 : decode cX7_program 65 = .ok (.aaload, 1) := by decide +kernel
theorem dX7_program_66 : decode cX7_program 66 = .ok (.getfield 92, 3) := by decide +kernel
theorem dX7_program_69 : decode cX7_program 69 = .ok (.ireturn, 1) := by decide +kernel
theorem dX7_fault_0 : decode cX7_fault 0 = .ok (.iload_n 1, 1) := by decide +kernel
theorem dX7_fault_1 : decode cX7_fault 1 = .ok (.lookupswitch 43 #[(0, 27), (1, 35)], 27) := by decide +kernel
theorem dX7_fault_28 : decode cX7_fault 28 = .ok (.aload_n 0, 1) := by decide +kernel
theorem dX7_fault_29 : decode cX7_fault 29 = .ok (.getfield 27, 3) := by decide +kernel
theorem dX7_fault_32 : decode cX7_fault 32 = .ok (.getfield 85, 3) := by decide +kernel
theorem dX7_fault_35 : decode cX7_fault 35 = .ok (.ireturn, 1) := by decide +kernel
theorem dX7_fault_36 : decode cX7_fault 36 = .ok (.aload_n 0, 1) := by decide +kernel
theorem dX7_fault_37 : decode cX7_fault 37 = .ok (.getfield 27, 3) := by decide +kernel
theorem dX7_fault_40 : decode cX7_fault 40 = .ok (.getfield 95, 3) := by decide +kernel
theorem dX7_fault_43 : decode cX7_fault 43 = .ok (.ireturn, 1) := by decide +kernel
theorem dX7_fault_44 : decode cX7_fault 44 = .ok (.iconst (-1), 1) := by decide +kernel
theorem dX7_fault_45 : decode cX7_fault 45 = .ok (.ireturn, 1) := by decide +kernel
theorem dX7_act_0 : decode cX7_act 0 = .ok (.iload_n 1, 1) := by decide +kernel
theorem dX7_act_1 : decode cX7_act 1 = .ok (.invokestatic 77, 3) := by decide +kernel
theorem dX7_act_4 : decode cX7_act 4 = .ok (.ifCond .eq 20, 3) := by decide +kernel
theorem dX7_act_7 : decode cX7_act 7 = .ok (.iload_n 2, 1) := by decide +kernel
theorem dX7_act_8 : decode cX7_act 8 = .ok (.ifCond .lt 16, 3) := by decide +kernel
theorem dX7_act_11 : decode cX7_act 11 = .ok (.iload_n 2, 1) := by decide +kernel
theorem dX7_act_12 : decode cX7_act 12 = .ok (.aload_n 0, 1) := by decide +kernel
theorem dX7_act_13 : decode cX7_act 13 = .ok (.getfield 20, 3) := by decide +kernel
theorem dX7_act_16 : decode cX7_act 16 = .ok (.iload_n 1, 1) := by decide +kernel
theorem dX7_act_17 : decode cX7_act 17 = .ok (.aaload, 1) := by decide +kernel
theorem dX7_act_18 : decode cX7_act 18 = .ok (.getfield 92, 3) := by decide +kernel
theorem dX7_act_21 : decode cX7_act 21 = .ok (.if_icmp .lt 15, 3) := by decide +kernel
theorem dX7_act_24 : decode cX7_act 24 = .ok (.iload_n 3, 1) := by decide +kernel
theorem dX7_act_25 : decode cX7_act 25 = .ok (.iconst 3, 1) := by decide +kernel
theorem dX7_act_26 : decode cX7_act 26 = .ok (.if_icmp .ne 8, 3) := by decide +kernel
theorem dX7_act_29 : decode cX7_act 29 = .ok (.ldc 98, 2) := by decide +kernel
theorem dX7_act_31 : decode cX7_act 31 = .ok (.goto 4, 3) := by decide +kernel
theorem dX7_act_34 : decode cX7_act 34 = .ok (.iconst (-1), 1) := by decide +kernel
theorem dX7_act_35 : decode cX7_act 35 = .ok (.ireturn, 1) := by decide +kernel
theorem dX7_act_36 : decode cX7_act 36 = .ok (.aload_n 0, 1) := by decide +kernel
theorem dX7_act_37 : decode cX7_act 37 = .ok (.getfield 20, 3) := by decide +kernel
theorem dX7_act_40 : decode cX7_act 40 = .ok (.iload_n 1, 1) := by decide +kernel
theorem dX7_act_41 : decode cX7_act 41 = .ok (.aaload, 1) := by decide +kernel
theorem dX7_act_42 : decode cX7_act 42 = .ok (.astore 4, 2) := by decide +kernel
theorem dX7_act_44 : decode cX7_act 44 = .ok (.iload_n 3, 1) := by decide +kernel
theorem dX7_act_45 : decode cX7_act 45 = .ok (.tableswitch 63 0 3 #[31, 39, 47, 55], 31) := by decide +kernel
theorem dX7_act_76 : decode cX7_act 76 = .ok (.aload 4, 2) := by decide +kernel
theorem dX7_act_78 : decode cX7_act 78 = .ok (.getfield 99, 3) := by decide +kernel
theorem dX7_act_81 : decode cX7_act 81 = .ok (.iload_n 2, 1) := by decide +kernel
theorem dX7_act_82 : decode cX7_act 82 = .ok (.iaload, 1) := by decide +kernel
theorem dX7_act_83 : decode cX7_act 83 = .ok (.ireturn, 1) := by decide +kernel
theorem dX7_act_84 : decode cX7_act 84 = .ok (.aload 4, 2) := by decide +kernel
theorem dX7_act_86 : decode cX7_act 86 = .ok (.getfield 103, 3) := by decide +kernel
theorem dX7_act_89 : decode cX7_act 89 = .ok (.iload_n 2, 1) := by decide +kernel
theorem dX7_act_90 : decode cX7_act 90 = .ok (.iaload, 1) := by decide +kernel
theorem dX7_act_91 : decode cX7_act 91 = .ok (.ireturn, 1) := by decide +kernel
theorem dX7_act_92 : decode cX7_act 92 = .ok (.aload 4, 2) := by decide +kernel
theorem dX7_act_94 : decode cX7_act 94 = .ok (.getfield 106, 3) := by decide +kernel
theorem dX7_act_97 : decode cX7_act 97 = .ok (.iload_n 2, 1) := by decide +kernel
theorem dX7_act_98 : decode cX7_act 98 = .ok (.iaload, 1) := by decide +kernel
theorem dX7_act_99 : decode cX7_act 99 = .ok (.ireturn, 1) := by decide +kernel
theorem dX7_act_100 : decode cX7_act 100 = .ok (.aload 4, 2) := by decide +kernel
theorem dX7_act_102 : decode cX7_act 102 = .ok (.getfield 109, 3) := by decide +kernel
theorem dX7_act_105 : decode cX7_act 105 = .ok (.iload_n 2, 1) := by decide +kernel
theorem dX7_act_106 : decode cX7_act 106 = .ok (.iaload, 1) := by decide +kernel
theorem dX7_act_107 : decode cX7_act 107 = .ok (.ireturn, 1) := by decide +kernel
theorem dX7_act_108 : decode cX7_act 108 = .ok (.iconst (-1), 1) := by decide +kernel
theorem dX7_act_109 : decode cX7_act 109 = .ok (.ireturn, 1) := by decide +kernel
theorem dX7_input_0 : decode cX7_input 0 = .ok (.aload_n 0, 1) := by decide +kernel
theorem dX7_input_1 : decode cX7_input 1 = .ok (.getfield 14, 3) := by decide +kernel
theorem dX7_input_4 : decode cX7_input 4 = .ok (.getfield 71, 3) := by decide +kernel
theorem dX7_input_7 : decode cX7_input 7 = .ok (.bipush 24, 2) := by decide +kernel
theorem dX7_input_9 : decode cX7_input 9 = .ok (.if_icmp .gt 12, 3) := by decide +kernel
theorem dX7_input_12 : decode cX7_input 12 = .ok (.aload_n 0, 1) := by decide +kernel
theorem dX7_input_13 : decode cX7_input 13 = .ok (.getfield 62, 3) := by decide +kernel
theorem dX7_input_16 : decode cX7_input 16 = .ok (.bipush 30, 2) := by decide +kernel
theorem dX7_input_18 : decode cX7_input 18 = .ok (.if_icmp .lt 5, 3) := by decide +kernel
theorem dX7_input_21 : decode cX7_input 21 = .ok (.iconst (-1), 1) := by decide +kernel
theorem dX7_input_22 : decode cX7_input 22 = .ok (.ireturn, 1) := by decide +kernel
theorem dX7_input_23 : decode cX7_input 23 = .ok (.aload_n 0, 1) := by decide +kernel
theorem dX7_input_24 : decode cX7_input 24 = .ok (.getfield 31, 3) := by decide +kernel
theorem dX7_input_27 : decode cX7_input 27 = .ok (.aload_n 0, 1) := by decide +kernel
theorem dX7_input_28 : decode cX7_input 28 = .ok (.getfield 62, 3) := by decide +kernel
theorem dX7_input_31 : decode cX7_input 31 = .ok (.aaload, 1) := by decide +kernel
theorem dX7_input_32 : decode cX7_input 32 = .ok (.aload_n 0, 1) := by decide +kernel
theorem dX7_input_33 : decode cX7_input 33 = .ok (.getfield 14, 3) := by decide +kernel
theorem dX7_input_36 : decode cX7_input 36 = .ok (.invokevirtual 112, 3) := by decide +kernel
theorem dX7_input_39 : decode cX7_input 39 = .ok (.aload_n 0, 1) := by decide +kernel
theorem dX7_input_40 : decode cX7_input 40 = .ok (.getfield 14, 3) := by decide +kernel
theorem dX7_input_43 : decode cX7_input 43 = .ok (.iconst 0, 1) := by decide +kernel
theorem dX7_input_44 : decode cX7_input 44 = .ok (.putfield 71, 3) := by decide +kernel
theorem dX7_input_47 : decode cX7_input 47 = .ok (.aload_n 0, 1) := by decide +kernel
theorem dX7_input_48 : decode cX7_input 48 = .ok (.dup, 1) := by decide +kernel
theorem dX7_input_49 : decode cX7_input 49 = .ok (.getfield 62, 3) := by decide +kernel
theorem dX7_input_52 : decode cX7_input 52 = .ok (.iconst 1, 1) := by decide +kernel
theorem dX7_input_53 : decode cX7_input 53 = .ok (.iadd, 1) := by decide +kernel
theorem dX7_input_54 : decode cX7_input 54 = .ok (.putfield 62, 3) := by decide +kernel
theorem dX7_input_57 : decode cX7_input 57 = .ok (.aload_n 0, 1) := by decide +kernel
theorem dX7_input_58 : decode cX7_input 58 = .ok (.getfield 62, 3) := by decide +kernel
theorem dX7_input_61 : decode cX7_input 61 = .ok (.iconst 1, 1) := by decide +kernel
theorem dX7_input_62 : decode cX7_input 62 = .ok (.isub, 1) := by decide +kernel
theorem dX7_input_63 : decode cX7_input 63 = .ok (.ireturn, 1) := by decide +kernel
theorem dX7_byteOf_0 : decode cX7_byteOf 0 = .ok (.aload_n 0, 1) := by decide +kernel
theorem dX7_byteOf_1 : decode cX7_byteOf 1 = .ok (.iload_n 1, 1) := by decide +kernel
theorem dX7_byteOf_2 : decode cX7_byteOf 2 = .ok (.invokevirtual 115, 3) := by decide +kernel
theorem dX7_byteOf_5 : decode cX7_byteOf 5 = .ok (.ifCond .eq 16, 3) := by decide +kernel
theorem dX7_byteOf_8 : decode cX7_byteOf 8 = .ok (.aload_n 0, 1) := by decide +kernel
theorem dX7_byteOf_9 : decode cX7_byteOf 9 = .ok (.getfield 31, 3) := by decide +kernel
theorem dX7_byteOf_12 : decode cX7_byteOf 12 = .ok (.iload_n 1, 1) := by decide +kernel
theorem dX7_byteOf_13 : decode cX7_byteOf 13 = .ok (.aaload, 1) := by decide +kernel
theorem dX7_byteOf_14 : decode cX7_byteOf 14 = .ok (.iload_n 2, 1) := by decide +kernel
theorem dX7_byteOf_15 : decode cX7_byteOf 15 = .ok (.invokevirtual 118, 3) := by decide +kernel
theorem dX7_byteOf_18 : decode cX7_byteOf 18 = .ok (.goto 4, 3) := by decide +kernel
theorem dX7_byteOf_21 : decode cX7_byteOf 21 = .ok (.iconst (-1), 1) := by decide +kernel
theorem dX7_byteOf_22 : decode cX7_byteOf 22 = .ok (.ireturn, 1) := by decide +kernel
theorem dX7_drop_0 : decode cX7_drop 0 = .ok (.aload_n 0, 1) := by decide +kernel
theorem dX7_drop_1 : decode cX7_drop 1 = .ok (.getfield 62, 3) := by decide +kernel
theorem dX7_drop_4 : decode cX7_drop 4 = .ok (.ifCond .ne 5, 3) := by decide +kernel
theorem dX7_drop_7 : decode cX7_drop 7 = .ok (.iconst 0, 1) := by decide +kernel
theorem dX7_drop_8 : decode cX7_drop 8 = .ok (.ireturn, 1) := by decide +kernel
theorem dX7_drop_9 : decode cX7_drop 9 = .ok (.aload_n 0, 1) := by decide +kernel
theorem dX7_drop_10 : decode cX7_drop 10 = .ok (.dup, 1) := by decide +kernel
theorem dX7_drop_11 : decode cX7_drop 11 = .ok (.getfield 62, 3) := by decide +kernel
theorem dX7_drop_14 : decode cX7_drop 14 = .ok (.iconst 1, 1) := by decide +kernel
theorem dX7_drop_15 : decode cX7_drop 15 = .ok (.isub, 1) := by decide +kernel
theorem dX7_drop_16 : decode cX7_drop 16 = .ok (.putfield 62, 3) := by decide +kernel
theorem dX7_drop_19 : decode cX7_drop 19 = .ok (.iconst 1, 1) := by decide +kernel
theorem dX7_drop_20 : decode cX7_drop 20 = .ok (.ireturn, 1) := by decide +kernel
theorem dX7_run_0 : decode cX7_run 0 = .ok (.iload_n 1, 1) := by decide +kernel
theorem dX7_run_1 : decode cX7_run 1 = .ok (.invokestatic 77, 3) := by decide +kernel
theorem dX7_run_4 : decode cX7_run 4 = .ok (.ifCond .eq 11, 3) := by decide +kernel
theorem dX7_run_7 : decode cX7_run 7 = .ok (.aload_n 0, 1) := by decide +kernel
theorem dX7_run_8 : decode cX7_run 8 = .ok (.iload_n 2, 1) := by decide +kernel
theorem dX7_run_9 : decode cX7_run 9 = .ok (.invokevirtual 115, 3) := by decide +kernel
theorem dX7_run_12 : decode cX7_run 12 = .ok (.ifCond .ne 5, 3) := by decide +kernel
theorem dX7_run_15 : decode cX7_run 15 = .ok (.iconst (-1), 1) := by decide +kernel
theorem dX7_run_16 : decode cX7_run 16 = .ok (.ireturn, 1) := by decide +kernel
theorem dX7_run_17 : decode cX7_run 17 = .ok (.aload_n 0, 1) := by decide +kernel
theorem dX7_run_18 : decode cX7_run 18 = .ok (.getfield 38, 3) := by decide +kernel
theorem dX7_run_21 : decode cX7_run 21 = .ok (.aload_n 0, 1) := by decide +kernel
theorem dX7_run_22 : decode cX7_run 22 = .ok (.getfield 20, 3) := by decide +kernel
theorem dX7_run_25 : decode cX7_run 25 = .ok (.iload_n 1, 1) := by decide +kernel
theorem dX7_run_26 : decode cX7_run 26 = .ok (.aaload, 1) := by decide +kernel
theorem dX7_run_27 : decode cX7_run 27 = .ok (.aload_n 0, 1) := by decide +kernel
theorem dX7_run_28 : decode cX7_run 28 = .ok (.getfield 31, 3) := by decide +kernel
theorem dX7_run_31 : decode cX7_run 31 = .ok (.iload_n 2, 1) := by decide +kernel
theorem dX7_run_32 : decode cX7_run 32 = .ok (.aaload, 1) := by decide +kernel
theorem dX7_run_33 : decode cX7_run 33 = .ok (.invokevirtual 122, 3) := by decide +kernel
theorem dX7_run_36 : decode cX7_run 36 = .ok (.aload_n 0, 1) := by decide +kernel
theorem dX7_run_37 : decode cX7_run 37 = .ok (.iconst 1, 1) := by decide +kernel
theorem dX7_run_38 : decode cX7_run 38 = .ok (.putfield 66, 3) := by decide +kernel
theorem dX7_run_41 : decode cX7_run 41 = .ok (.aload_n 0, 1) := by decide +kernel
theorem dX7_run_42 : decode cX7_run 42 = .ok (.getfield 38, 3) := by decide +kernel
theorem dX7_run_45 : decode cX7_run 45 = .ok (.getfield 126, 3) := by decide +kernel
theorem dX7_run_48 : decode cX7_run 48 = .ok (.ireturn, 1) := by decide +kernel
theorem dX7_ran_0 : decode cX7_ran 0 = .ok (.aload_n 0, 1) := by decide +kernel
theorem dX7_ran_1 : decode cX7_ran 1 = .ok (.getfield 66, 3) := by decide +kernel
theorem dX7_ran_4 : decode cX7_ran 4 = .ok (.ifCond .ne 5, 3) := by decide +kernel
theorem dX7_ran_7 : decode cX7_ran 7 = .ok (.iconst (-1), 1) := by decide +kernel
theorem dX7_ran_8 : decode cX7_ran 8 = .ok (.ireturn, 1) := by decide +kernel
theorem dX7_ran_9 : decode cX7_ran 9 = .ok (.iload_n 1, 1) := by decide +kernel
theorem dX7_ran_10 : decode cX7_ran 10 = .ok (.tableswitch 98 0 6 #[42, 50, 58, 66, 74, 82, 90], 42) := by decide +kernel
theorem dX7_ran_52 : decode cX7_ran 52 = .ok (.aload_n 0, 1) := by decide +kernel
theorem dX7_ran_53 : decode cX7_ran 53 = .ok (.getfield 38, 3) := by decide +kernel
theorem dX7_ran_56 : decode cX7_ran 56 = .ok (.getfield 129, 3) := by decide +kernel
theorem dX7_ran_59 : decode cX7_ran 59 = .ok (.ireturn, 1) := by decide +kernel
theorem dX7_ran_60 : decode cX7_ran 60 = .ok (.aload_n 0, 1) := by decide +kernel
theorem dX7_ran_61 : decode cX7_ran 61 = .ok (.getfield 38, 3) := by decide +kernel
theorem dX7_ran_64 : decode cX7_ran 64 = .ok (.getfield 132, 3) := by decide +kernel
theorem dX7_ran_67 : decode cX7_ran 67 = .ok (.ireturn, 1) := by decide +kernel
theorem dX7_ran_68 : decode cX7_ran 68 = .ok (.aload_n 0, 1) := by decide +kernel
theorem dX7_ran_69 : decode cX7_ran 69 = .ok (.getfield 38, 3) := by decide +kernel
theorem dX7_ran_72 : decode cX7_ran 72 = .ok (.getfield 135, 3) := by decide +kernel
theorem dX7_ran_75 : decode cX7_ran 75 = .ok (.ireturn, 1) := by decide +kernel
theorem dX7_ran_76 : decode cX7_ran 76 = .ok (.aload_n 0, 1) := by decide +kernel
theorem dX7_ran_77 : decode cX7_ran 77 = .ok (.getfield 38, 3) := by decide +kernel
theorem dX7_ran_80 : decode cX7_ran 80 = .ok (.getfield 138, 3) := by decide +kernel
theorem dX7_ran_83 : decode cX7_ran 83 = .ok (.ireturn, 1) := by decide +kernel
theorem dX7_ran_84 : decode cX7_ran 84 = .ok (.aload_n 0, 1) := by decide +kernel
theorem dX7_ran_85 : decode cX7_ran 85 = .ok (.getfield 38, 3) := by decide +kernel
theorem dX7_ran_88 : decode cX7_ran 88 = .ok (.getfield 141, 3) := by decide +kernel
theorem dX7_ran_91 : decode cX7_ran 91 = .ok (.ireturn, 1) := by decide +kernel
theorem dX7_ran_92 : decode cX7_ran 92 = .ok (.aload_n 0, 1) := by decide +kernel
theorem dX7_ran_93 : decode cX7_ran 93 = .ok (.getfield 38, 3) := by decide +kernel
theorem dX7_ran_96 : decode cX7_ran 96 = .ok (.getfield 144, 3) := by decide +kernel
theorem dX7_ran_99 : decode cX7_ran 99 = .ok (.ireturn, 1) := by decide +kernel
theorem dX7_ran_100 : decode cX7_ran 100 = .ok (.aload_n 0, 1) := by decide +kernel
