theorem dX7_ran_101 : decode cX7_ran 101 = .ok (.getfield 38, 3) := by decide +kernel
theorem dX7_ran_104 : decode cX7_ran 104 = .ok (.getfield 147, 3) := by decide +kernel
theorem dX7_ran_107 : decode cX7_ran 107 = .ok (.ireturn, 1) := by decide +kernel
theorem dX7_ran_108 : decode cX7_ran 108 = .ok (.iconst (-1), 1) := by decide +kernel
theorem dX7_ran_109 : decode cX7_ran 109 = .ok (.ireturn, 1) := by decide +kernel
theorem dX7_told_0 : decode cX7_told 0 = .ok (.aload_n 0, 1) := by decide +kernel
theorem dX7_told_1 : decode cX7_told 1 = .ok (.getfield 66, 3) := by decide +kernel
theorem dX7_told_4 : decode cX7_told 4 = .ok (.ifCond .eq 23, 3) := by decide +kernel
theorem dX7_told_7 : decode cX7_told 7 = .ok (.iload_n 1, 1) := by decide +kernel
theorem dX7_told_8 : decode cX7_told 8 = .ok (.ifCond .lt 19, 3) := by decide +kernel
theorem dX7_told_11 : decode cX7_told 11 = .ok (.iload_n 1, 1) := by decide +kernel
theorem dX7_told_12 : decode cX7_told 12 = .ok (.aload_n 0, 1) := by decide +kernel
theorem dX7_told_13 : decode cX7_told 13 = .ok (.getfield 38, 3) := by decide +kernel
theorem dX7_told_16 : decode cX7_told 16 = .ok (.getfield 144, 3) := by decide +kernel
theorem dX7_told_19 : decode cX7_told 19 = .ok (.bipush 40, 2) := by decide +kernel
theorem dX7_told_21 : decode cX7_told 21 = .ok (.invokestatic 150, 3) := by decide +kernel
theorem dX7_told_24 : decode cX7_told 24 = .ok (.if_icmp .lt 5, 3) := by decide +kernel
theorem dX7_told_27 : decode cX7_told 27 = .ok (.iconst 0, 1) := by decide +kernel
theorem dX7_told_28 : decode cX7_told 28 = .ok (.ireturn, 1) := by decide +kernel
theorem dX7_told_29 : decode cX7_told 29 = .ok (.aload_n 0, 1) := by decide +kernel
theorem dX7_told_30 : decode cX7_told 30 = .ok (.getfield 38, 3) := by decide +kernel
theorem dX7_told_33 : decode cX7_told 33 = .ok (.getfield 156, 3) := by decide +kernel
theorem dX7_told_36 : decode cX7_told 36 = .ok (.iload_n 1, 1) := by decide +kernel
theorem dX7_told_37 : decode cX7_told 37 = .ok (.iaload, 1) := by decide +kernel
theorem dX7_told_38 : decode cX7_told 38 = .ok (.ireturn, 1) := by decide +kernel
theorem dX7_left_0 : decode cX7_left 0 = .ok (.aload_n 0, 1) := by decide +kernel
theorem dX7_left_1 : decode cX7_left 1 = .ok (.getfield 66, 3) := by decide +kernel
theorem dX7_left_4 : decode cX7_left 4 = .ok (.ifCond .eq 22, 3) := by decide +kernel
theorem dX7_left_7 : decode cX7_left 7 = .ok (.iload_n 1, 1) := by decide +kernel
theorem dX7_left_8 : decode cX7_left 8 = .ok (.invokestatic 159, 3) := by decide +kernel
theorem dX7_left_11 : decode cX7_left 11 = .ok (.ifCond .eq 15, 3) := by decide +kernel
theorem dX7_left_14 : decode cX7_left 14 = .ok (.aload_n 0, 1) := by decide +kernel
theorem dX7_left_15 : decode cX7_left 15 = .ok (.getfield 38, 3) := by decide +kernel
theorem dX7_left_18 : decode cX7_left 18 = .ok (.getfield 162, 3) := by decide +kernel
theorem dX7_left_21 : decode cX7_left 21 = .ok (.iload_n 1, 1) := by decide +kernel
theorem dX7_left_22 : decode cX7_left 22 = .ok (.iaload, 1) := by decide +kernel
theorem dX7_left_23 : decode cX7_left 23 = .ok (.goto 4, 3) := by decide +kernel
theorem dX7_left_26 : decode cX7_left 26 = .ok (.iconst 0, 1) := by decide +kernel
theorem dX7_left_27 : decode cX7_left 27 = .ok (.ireturn, 1) := by decide +kernel
theorem dX7_leftOf_0 : decode cX7_leftOf 0 = .ok (.aload_n 0, 1) := by decide +kernel
theorem dX7_leftOf_1 : decode cX7_leftOf 1 = .ok (.getfield 66, 3) := by decide +kernel
theorem dX7_leftOf_4 : decode cX7_leftOf 4 = .ok (.ifCond .eq 14, 3) := by decide +kernel
theorem dX7_leftOf_7 : decode cX7_leftOf 7 = .ok (.iload_n 1, 1) := by decide +kernel
theorem dX7_leftOf_8 : decode cX7_leftOf 8 = .ok (.invokestatic 159, 3) := by decide +kernel
theorem dX7_leftOf_11 : decode cX7_leftOf 11 = .ok (.ifCond .eq 7, 3) := by decide +kernel
theorem dX7_leftOf_14 : decode cX7_leftOf 14 = .ok (.iconst 1, 1) := by decide +kernel
theorem dX7_leftOf_15 : decode cX7_leftOf 15 = .ok (.goto 4, 3) := by decide +kernel
theorem dX7_leftOf_18 : decode cX7_leftOf 18 = .ok (.iconst 0, 1) := by decide +kernel
theorem dX7_leftOf_19 : decode cX7_leftOf 19 = .ok (.istore_n 3, 1) := by decide +kernel
theorem dX7_leftOf_20 : decode cX7_leftOf 20 = .ok (.iload_n 2, 1) := by decide +kernel
theorem dX7_leftOf_21 : decode cX7_leftOf 21 = .ok (.lookupswitch 63 #[(0, 27), (1, 45)], 27) := by decide +kernel
theorem dX7_leftOf_48 : decode cX7_leftOf 48 = .ok (.iload_n 3, 1) := by decide +kernel
theorem dX7_leftOf_49 : decode cX7_leftOf 49 = .ok (.ifCond .eq 15, 3) := by decide +kernel
theorem dX7_leftOf_52 : decode cX7_leftOf 52 = .ok (.aload_n 0, 1) := by decide +kernel
theorem dX7_leftOf_53 : decode cX7_leftOf 53 = .ok (.getfield 38, 3) := by decide +kernel
theorem dX7_leftOf_56 : decode cX7_leftOf 56 = .ok (.getfield 165, 3) := by decide +kernel
theorem dX7_leftOf_59 : decode cX7_leftOf 59 = .ok (.iload_n 1, 1) := by decide +kernel
theorem dX7_leftOf_60 : decode cX7_leftOf 60 = .ok (.iaload, 1) := by decide +kernel
theorem dX7_leftOf_61 : decode cX7_leftOf 61 = .ok (.goto 4, 3) := by decide +kernel
theorem dX7_leftOf_64 : decode cX7_leftOf 64 = .ok (.iconst (-1), 1) := by decide +kernel
theorem dX7_leftOf_65 : decode cX7_leftOf 65 = .ok (.ireturn, 1) := by decide +kernel
theorem dX7_leftOf_66 : decode cX7_leftOf 66 = .ok (.iload_n 3, 1) := by decide +kernel
theorem dX7_leftOf_67 : decode cX7_leftOf 67 = .ok (.ifCond .eq 15, 3) := by decide +kernel
theorem dX7_leftOf_70 : decode cX7_leftOf 70 = .ok (.aload_n 0, 1) := by decide +kernel
theorem dX7_leftOf_71 : decode cX7_leftOf 71 = .ok (.getfield 38, 3) := by decide +kernel
theorem dX7_leftOf_74 : decode cX7_leftOf 74 = .ok (.getfield 168, 3) := by decide +kernel
theorem dX7_leftOf_77 : decode cX7_leftOf 77 = .ok (.iload_n 1, 1) := by decide +kernel
theorem dX7_leftOf_78 : decode cX7_leftOf 78 = .ok (.iaload, 1) := by decide +kernel
theorem dX7_leftOf_79 : decode cX7_leftOf 79 = .ok (.goto 4, 3) := by decide +kernel
theorem dX7_leftOf_82 : decode cX7_leftOf 82 = .ok (.iconst 0, 1) := by decide +kernel
theorem dX7_leftOf_83 : decode cX7_leftOf 83 = .ok (.ireturn, 1) := by decide +kernel
theorem dX7_leftOf_84 : decode cX7_leftOf 84 = .ok (.iconst (-1), 1) := by decide +kernel
theorem dX7_leftOf_85 : decode cX7_leftOf 85 = .ok (.ireturn, 1) := by decide +kernel
theorem dX7_heaps_0 : decode cX7_heaps 0 = .ok (.iload_n 1, 1) := by decide +kernel
theorem dX7_heaps_1 : decode cX7_heaps 1 = .ok (.invokestatic 77, 3) := by decide +kernel
theorem dX7_heaps_4 : decode cX7_heaps 4 = .ok (.ifCond .ne 5, 3) := by decide +kernel
theorem dX7_heaps_7 : decode cX7_heaps 7 = .ok (.iconst (-1), 1) := by decide +kernel
theorem dX7_heaps_8 : decode cX7_heaps 8 = .ok (.ireturn, 1) := by decide +kernel
theorem dX7_heaps_9 : decode cX7_heaps 9 = .ok (.aload_n 0, 1) := by decide +kernel
theorem dX7_heaps_10 : decode cX7_heaps 10 = .ok (.iload_n 1, 1) := by decide +kernel
theorem dX7_heaps_11 : decode cX7_heaps 11 = .ok (.invokevirtual 171, 3) := by decide +kernel
theorem dX7_heaps_14 : decode cX7_heaps 14 = .ok (.aload_n 0, 1) := by decide +kernel
theorem dX7_heaps_15 : decode cX7_heaps 15 = .ok (.getfield 51, 3) := by decide +kernel
theorem dX7_heaps_18 : decode cX7_heaps 18 = .ok (.getfield 174, 3) := by decide +kernel
theorem dX7_heaps_21 : decode cX7_heaps 21 = .ok (.ireturn, 1) := by decide +kernel
theorem dX7_heap_0 : decode cX7_heap 0 = .ok (.iload_n 1, 1) := by decide +kernel
theorem dX7_heap_1 : decode cX7_heap 1 = .ok (.invokestatic 77, 3) := by decide +kernel
theorem dX7_heap_4 : decode cX7_heap 4 = .ok (.ifCond .ne 5, 3) := by decide +kernel
theorem dX7_heap_7 : decode cX7_heap 7 = .ok (.iconst (-1), 1) := by decide +kernel
theorem dX7_heap_8 : decode cX7_heap 8 = .ok (.ireturn, 1) := by decide +kernel
theorem dX7_heap_9 : decode cX7_heap 9 = .ok (.aload_n 0, 1) := by decide +kernel
theorem dX7_heap_10 : decode cX7_heap 10 = .ok (.iload_n 1, 1) := by decide +kernel
theorem dX7_heap_11 : decode cX7_heap 11 = .ok (.invokevirtual 171, 3) := by decide +kernel
theorem dX7_heap_14 : decode cX7_heap 14 = .ok (.iload_n 2, 1) := by decide +kernel
theorem dX7_heap_15 : decode cX7_heap 15 = .ok (.ifCond .lt 14, 3) := by decide +kernel
theorem dX7_heap_18 : decode cX7_heap 18 = .ok (.iload_n 2, 1) := by decide +kernel
theorem dX7_heap_19 : decode cX7_heap 19 = .ok (.aload_n 0, 1) := by decide +kernel
theorem dX7_heap_20 : decode cX7_heap 20 = .ok (.getfield 51, 3) := by decide +kernel
theorem dX7_heap_23 : decode cX7_heap 23 = .ok (.getfield 174, 3) := by decide +kernel
theorem dX7_heap_26 : decode cX7_heap 26 = .ok (.if_icmp .lt 5, 3) := by decide +kernel
theorem dX7_heap_29 : decode cX7_heap 29 = .ok (.iconst (-1), 1) := by decide +kernel
theorem dX7_heap_30 : decode cX7_heap 30 = .ok (.ireturn, 1) := by decide +kernel
theorem dX7_heap_31 : decode cX7_heap 31 = .ok (.iload_n 3, 1) := by decide +kernel
theorem dX7_heap_32 : decode cX7_heap 32 = .ok (.tableswitch 86 0 4 #[36, 46, 56, 66, 76], 36) := by decide +kernel
theorem dX7_heap_68 : decode cX7_heap 68 = .ok (.aload_n 0, 1) := by decide +kernel
theorem dX7_heap_69 : decode cX7_heap 69 = .ok (.getfield 51, 3) := by decide +kernel
theorem dX7_heap_72 : decode cX7_heap 72 = .ok (.getfield 175, 3) := by decide +kernel
theorem dX7_heap_75 : decode cX7_heap 75 = .ok (.iload_n 2, 1) := by decide +kernel
theorem dX7_heap_76 : decode cX7_heap 76 = .ok (.iaload, 1) := by decide +kernel
theorem dX7_heap_77 : decode cX7_heap 77 = .ok (.ireturn, 1) := by decide +kernel
theorem dX7_heap_78 : decode cX7_heap 78 = .ok (.aload_n 0, 1) := by decide +kernel
theorem dX7_heap_79 : decode cX7_heap 79 = .ok (.getfield 51, 3) := by decide +kernel
theorem dX7_heap_82 : decode cX7_heap 82 = .ok (.getfield 178, 3) := by decide +kernel
theorem dX7_heap_85 : decode cX7_heap 85 = .ok (.iload_n 2, 1) := by decide +kernel
theorem dX7_heap_86 : decode cX7_heap 86 = .ok (.iaload, 1) := by decide +kernel
theorem dX7_heap_87 : decode cX7_heap 87 = .ok (.ireturn, 1) := by decide +kernel
theorem dX7_heap_88 : decode cX7_heap 88 = .ok (.aload_n 0, 1) := by decide +kernel
theorem dX7_heap_89 : decode cX7_heap 89 = .ok (.getfield 51, 3) := by decide +kernel
theorem dX7_heap_92 : decode cX7_heap 92 = .ok (.getfield 181, 3) := by decide +kernel
theorem dX7_heap_95 : decode cX7_heap 95 = .ok (.iload_n 2, 1) := by decide +kernel
theorem dX7_heap_96 : decode cX7_heap 96 = .ok (.iaload, 1) := by decide +kernel
theorem dX7_heap_97 : decode cX7_heap 97 = .ok (.ireturn, 1) := by decide +kernel
theorem dX7_heap_98 : decode cX7_heap 98 = .ok (.aload_n 0, 1) := by decide +kernel
theorem dX7_heap_99 : decode cX7_heap 99 = .ok (.getfield 51, 3) := by decide +kernel
theorem dX7_heap_102 : decode cX7_heap 102 = .ok (.getfield 184, 3) := by decide +kernel
theorem dX7_heap_105 : decode cX7_heap 105 = .ok (.iload_n 2, 1) := by decide +kernel
theorem dX7_heap_106 : decode cX7_heap 106 = .ok (.iaload, 1) := by decide +kernel
theorem dX7_heap_107 : decode cX7_heap 107 = .ok (.ireturn, 1) := by decide +kernel
theorem dX7_heap_108 : decode cX7_heap 108 = .ok (.aload_n 0, 1) := by decide +kernel
theorem dX7_heap_109 : decode cX7_heap 109 = .ok (.getfield 51, 3) := by decide +kernel
theorem dX7_heap_112 : decode cX7_heap 112 = .ok (.getfield 187, 3) := by decide +kernel
theorem dX7_heap_115 : decode cX7_heap 115 = .ok (.iload_n 2, 1) := by decide +kernel
theorem dX7_heap_116 : decode cX7_heap 116 = .ok (.iaload, 1) := by decide +kernel
theorem dX7_heap_117 : decode cX7_heap 117 = .ok (.ireturn, 1) := by decide +kernel
theorem dX7_heap_118 : decode cX7_heap 118 = .ok (.iconst (-1), 1) := by decide +kernel
theorem dX7_heap_119 : decode cX7_heap 119 = .ok (.ireturn, 1) := by decide +kernel
theorem dX7_heapOf_0 : decode cX7_heapOf 0 = .ok (.iload_n 1, 1) := by decide +kernel
theorem dX7_heapOf_1 : decode cX7_heapOf 1 = .ok (.invokestatic 77, 3) := by decide +kernel
theorem dX7_heapOf_4 : decode cX7_heapOf 4 = .ok (.ifCond .eq 11, 3) := by decide +kernel
theorem dX7_heapOf_7 : decode cX7_heapOf 7 = .ok (.aload_n 0, 1) := by decide +kernel
theorem dX7_heapOf_8 : decode cX7_heapOf 8 = .ok (.iload_n 2, 1) := by decide +kernel
theorem dX7_heapOf_9 : decode cX7_heapOf 9 = .ok (.invokevirtual 115, 3) := by decide +kernel
theorem dX7_heapOf_12 : decode cX7_heapOf 12 = .ok (.ifCond .ne 5, 3) := by decide +kernel
theorem dX7_heapOf_15 : decode cX7_heapOf 15 = .ok (.iconst (-1), 1) := by decide +kernel
theorem dX7_heapOf_16 : decode cX7_heapOf 16 = .ok (.ireturn, 1) := by decide +kernel
theorem dX7_heapOf_17 : decode cX7_heapOf 17 = .ok (.aload_n 0, 1) := by decide +kernel
theorem dX7_heapOf_18 : decode cX7_heapOf 18 = .ok (.iload_n 1, 1) := by decide +kernel
theorem dX7_heapOf_19 : decode cX7_heapOf 19 = .ok (.invokevirtual 171, 3) := by decide +kernel
theorem dX7_heapOf_22 : decode cX7_heapOf 22 = .ok (.aload_n 0, 1) := by decide +kernel
theorem dX7_heapOf_23 : decode cX7_heapOf 23 = .ok (.getfield 51, 3) := by decide +kernel
theorem dX7_heapOf_26 : decode cX7_heapOf 26 = .ok (.getfield 188, 3) := by decide +kernel
theorem dX7_heapOf_29 : decode cX7_heapOf 29 = .ok (.iload_n 2, 1) := by decide +kernel
theorem dX7_heapOf_30 : decode cX7_heapOf 30 = .ok (.iaload, 1) := by decide +kernel
theorem dX7_heapOf_31 : decode cX7_heapOf 31 = .ok (.ireturn, 1) := by decide +kernel
theorem dX7_small_0 : decode cX7_small 0 = .ok (.iload_n 1, 1) := by decide +kernel
theorem dX7_small_1 : decode cX7_small 1 = .ok (.invokestatic 77, 3) := by decide +kernel
theorem dX7_small_4 : decode cX7_small 4 = .ok (.ifCond .eq 11, 3) := by decide +kernel
theorem dX7_small_7 : decode cX7_small 7 = .ok (.aload_n 0, 1) := by decide +kernel
theorem dX7_small_8 : decode cX7_small 8 = .ok (.iload_n 2, 1) := by decide +kernel
theorem dX7_small_9 : decode cX7_small 9 = .ok (.invokevirtual 115, 3) := by decide +kernel
theorem dX7_small_12 : decode cX7_small 12 = .ok (.ifCond .ne 5, 3) := by decide +kernel
theorem dX7_small_15 : decode cX7_small 15 = .ok (.iconst (-1), 1) := by decide +kernel
theorem dX7_small_16 : decode cX7_small 16 = .ok (.ireturn, 1) := by decide +kernel
theorem dX7_small_17 : decode cX7_small 17 = .ok (.aload_n 0, 1) := by decide +kernel
theorem dX7_small_18 : decode cX7_small 18 = .ok (.getfield 58, 3) := by decide +kernel
theorem dX7_small_21 : decode cX7_small 21 = .ok (.aload_n 0, 1) := by decide +kernel
theorem dX7_small_22 : decode cX7_small 22 = .ok (.getfield 20, 3) := by decide +kernel
theorem dX7_small_25 : decode cX7_small 25 = .ok (.iload_n 1, 1) := by decide +kernel
theorem dX7_small_26 : decode cX7_small 26 = .ok (.aaload, 1) := by decide +kernel
theorem dX7_small_27 : decode cX7_small 27 = .ok (.aload_n 0, 1) := by decide +kernel
theorem dX7_small_28 : decode cX7_small 28 = .ok (.getfield 31, 3) := by decide +kernel
theorem dX7_small_31 : decode cX7_small 31 = .ok (.iload_n 2, 1) := by decide +kernel
theorem dX7_small_32 : decode cX7_small 32 = .ok (.aaload, 1) := by decide +kernel
theorem dX7_small_33 : decode cX7_small 33 = .ok (.invokevirtual 191, 3) := by decide +kernel
theorem dX7_small_36 : decode cX7_small 36 = .ok (.ifCond .eq 16, 3) := by decide +kernel
theorem dX7_small_39 : decode cX7_small 39 = .ok (.aload_n 0, 1) := by decide +kernel
theorem dX7_small_40 : decode cX7_small 40 = .ok (.getfield 58, 3) := by decide +kernel
theorem dX7_small_43 : decode cX7_small 43 = .ok (.getfield 195, 3) := by decide +kernel
theorem dX7_small_46 : decode cX7_small 46 = .ok (.getfield 71, 3) := by decide +kernel
theorem dX7_small_49 : decode cX7_small 49 = .ok (.goto 4, 3) := by decide +kernel
theorem dX7_small_52 : decode cX7_small 52 = .ok (.iconst (-1), 1) := by decide +kernel
theorem dX7_small_53 : decode cX7_small 53 = .ok (.ireturn, 1) := by decide +kernel
theorem dX7_smallByte_0 : decode cX7_smallByte 0 = .ok (.iload_n 2, 1) := by decide +kernel
theorem dX7_smallByte_1 : decode cX7_smallByte 1 = .ok (.ifCond .eq 17, 3) := by decide +kernel
theorem dX7_smallByte_4 : decode cX7_smallByte 4 = .ok (.aload_n 0, 1) := by decide +kernel
theorem dX7_smallByte_5 : decode cX7_smallByte 5 = .ok (.getfield 58, 3) := by decide +kernel
theorem dX7_smallByte_8 : decode cX7_smallByte 8 = .ok (.getfield 198, 3) := by decide +kernel
theorem dX7_smallByte_11 : decode cX7_smallByte 11 = .ok (.iload_n 1, 1) := by decide +kernel
theorem dX7_smallByte_12 : decode cX7_smallByte 12 = .ok (.invokevirtual 118, 3) := by decide +kernel
theorem dX7_smallByte_15 : decode cX7_smallByte 15 = .ok (.goto 14, 3) := by decide +kernel
theorem dX7_smallByte_18 : decode cX7_smallByte 18 = .ok (.aload_n 0, 1) := by decide +kernel
theorem dX7_smallByte_19 : decode cX7_smallByte 19 = .ok (.getfield 58, 3) := by decide +kernel
theorem dX7_smallByte_22 : decode cX7_smallByte 22 = .ok (.getfield 195, 3) := by decide +kernel
theorem dX7_smallByte_25 : decode cX7_smallByte 25 = .ok (.iload_n 1, 1) := by decide +kernel
theorem dX7_smallByte_26 : decode cX7_smallByte 26 = .ok (.invokevirtual 118, 3) := by decide +kernel
theorem dX7_smallByte_29 : decode cX7_smallByte 29 = .ok (.ireturn, 1) := by decide +kernel
theorem dX7_ruled_0 : decode cX7_ruled 0 = .ok (.iload_n 1, 1) := by decide +kernel
theorem dX7_ruled_1 : decode cX7_ruled 1 = .ok (.invokestatic 77, 3) := by decide +kernel
theorem dX7_ruled_4 : decode cX7_ruled 4 = .ok (.ifCond .eq 11, 3) := by decide +kernel
theorem dX7_ruled_7 : decode cX7_ruled 7 = .ok (.aload_n 0, 1) := by decide +kernel
theorem dX7_ruled_8 : decode cX7_ruled 8 = .ok (.iload_n 2, 1) := by decide +kernel
theorem dX7_ruled_9 : decode cX7_ruled 9 = .ok (.invokevirtual 115, 3) := by decide +kernel
theorem dX7_ruled_12 : decode cX7_ruled 12 = .ok (.ifCond .ne 5, 3) := by decide +kernel
theorem dX7_ruled_15 : decode cX7_ruled 15 = .ok (.iconst (-1), 1) := by decide +kernel
theorem dX7_ruled_16 : decode cX7_ruled 16 = .ok (.ireturn, 1) := by decide +kernel
theorem dX7_ruled_17 : decode cX7_ruled 17 = .ok (.aload_n 0, 1) := by decide +kernel
theorem dX7_ruled_18 : decode cX7_ruled 18 = .ok (.getfield 58, 3) := by decide +kernel
theorem dX7_ruled_21 : decode cX7_ruled 21 = .ok (.aload_n 0, 1) := by decide +kernel
theorem dX7_ruled_22 : decode cX7_ruled 22 = .ok (.getfield 20, 3) := by decide +kernel
theorem dX7_ruled_25 : decode cX7_ruled 25 = .ok (.iload_n 1, 1) := by decide +kernel
theorem dX7_ruled_26 : decode cX7_ruled 26 = .ok (.aaload, 1) := by decide +kernel
theorem dX7_ruled_27 : decode cX7_ruled 27 = .ok (.aload_n 0, 1) := by decide +kernel
theorem dX7_ruled_28 : decode cX7_ruled 28 = .ok (.getfield 31, 3) := by decide +kernel
theorem dX7_ruled_31 : decode cX7_ruled 31 = .ok (.iload_n 2, 1) := by decide +kernel
theorem dX7_ruled_32 : decode cX7_ruled 32 = .ok (.aaload, 1) := by decide +kernel
theorem dX7_ruled_33 : decode cX7_ruled 33 = .ok (.invokevirtual 201, 3) := by decide +kernel
theorem dX7_ruled_36 : decode cX7_ruled 36 = .ok (.ireturn, 1) := by decide +kernel
theorem dX7_nearest_0 : decode cX7_nearest 0 = .ok (.iload_n 1, 1) := by decide +kernel
theorem dX7_nearest_1 : decode cX7_nearest 1 = .ok (.invokestatic 77, 3) := by decide +kernel
theorem dX7_nearest_4 : decode cX7_nearest 4 = .ok (.ifCond .eq 11, 3) := by decide +kernel
theorem dX7_nearest_7 : decode cX7_nearest 7 = .ok (.aload_n 0, 1) := by decide +kernel
theorem dX7_nearest_8 : decode cX7_nearest 8 = .ok (.iload_n 2, 1) := by decide +kernel
theorem dX7_nearest_9 : decode cX7_nearest 9 = .ok (.invokevirtual 115, 3) := by decide +kernel
theorem dX7_nearest_12 : decode cX7_nearest 12 = .ok (.ifCond .ne 5, 3) := by decide +kernel
theorem dX7_nearest_15 : decode cX7_nearest 15 = .ok (.iconst (-1), 1) := by decide +kernel
theorem dX7_nearest_16 : decode cX7_nearest 16 = .ok (.ireturn, 1) := by decide +kernel
theorem dX7_nearest_17 : decode cX7_nearest 17 = .ok (.aload_n 0, 1) := by decide +kernel
theorem dX7_nearest_18 : decode cX7_nearest 18 = .ok (.getfield 58, 3) := by decide +kernel
theorem dX7_nearest_21 : decode cX7_nearest 21 = .ok (.aload_n 0, 1) := by decide +kernel
theorem dX7_nearest_22 : decode cX7_nearest 22 = .ok (.getfield 20, 3) := by decide +kernel
theorem dX7_nearest_25 : decode cX7_nearest 25 = .ok (.iload_n 1, 1) := by decide +kernel
theorem dX7_nearest_26 : decode cX7_nearest 26 = .ok (.aaload, 1) := by decide +kernel
theorem dX7_nearest_27 : decode cX7_nearest 27 = .ok (.aload_n 0, 1) := by decide +kernel
theorem dX7_nearest_28 : decode cX7_nearest 28 = .ok (.getfield 31, 3) := by decide +kernel
theorem dX7_nearest_31 : decode cX7_nearest 31 = .ok (.iload_n 2, 1) := by decide +kernel
theorem dX7_nearest_32 : decode cX7_nearest 32 = .ok (.aaload, 1) := by decide +kernel
theorem dX7_nearest_33 : decode cX7_nearest 33 = .ok (.invokevirtual 205, 3) := by decide +kernel
theorem dX7_nearest_36 : decode cX7_nearest 36 = .ok (.aload_n 0, 1) := by decide +kernel
theorem dX7_nearest_37 : decode cX7_nearest 37 = .ok (.getfield 58, 3) := by decide +kernel
theorem dX7_nearest_40 : decode cX7_nearest 40 = .ok (.getfield 208, 3) := by decide +kernel
theorem dX7_nearest_43 : decode cX7_nearest 43 = .ok (.ireturn, 1) := by decide +kernel
theorem dX7_nearestByte_0 : decode cX7_nearestByte 0 = .ok (.iload_n 1, 1) := by decide +kernel
theorem dX7_nearestByte_1 : decode cX7_nearestByte 1 = .ok (.invokestatic 77, 3) := by decide +kernel
theorem dX7_nearestByte_4 : decode cX7_nearestByte 4 = .ok (.ifCond .eq 11, 3) := by decide +kernel
theorem dX7_nearestByte_7 : decode cX7_nearestByte 7 = .ok (.aload_n 0, 1) := by decide +kernel
theorem dX7_nearestByte_8 : decode cX7_nearestByte 8 = .ok (.iload_n 2, 1) := by decide +kernel
theorem dX7_nearestByte_9 : decode cX7_nearestByte 9 = .ok (.invokevirtual 115, 3) := by decide +kernel
theorem dX7_nearestByte_12 : decode cX7_nearestByte 12 = .ok (.ifCond .ne 5, 3) := by decide +kernel
theorem dX7_nearestByte_15 : decode cX7_nearestByte 15 = .ok (.iconst (-1), 1) := by decide +kernel
theorem dX7_nearestByte_16 : decode cX7_nearestByte 16 = .ok (.ireturn, 1) := by decide +kernel
theorem dX7_nearestByte_17 : decode cX7_nearestByte 17 = .ok (.aload_n 0, 1) := by decide +kernel
theorem dX7_nearestByte_18 : decode cX7_nearestByte 18 = .ok (.getfield 58, 3) := by decide +kernel
theorem dX7_nearestByte_21 : decode cX7_nearestByte 21 = .ok (.aload_n 0, 1) := by decide +kernel
theorem dX7_nearestByte_22 : decode cX7_nearestByte 22 = .ok (.getfield 20, 3) := by decide +kernel
theorem dX7_nearestByte_25 : decode cX7_nearestByte 25 = .ok (.iload_n 1, 1) := by decide +kernel
theorem dX7_nearestByte_26 : decode cX7_nearestByte 26 = .ok (.aaload, 1) := by decide +kernel
theorem dX7_nearestByte_27 : decode cX7_nearestByte 27 = .ok (.aload_n 0, 1) := by decide +kernel
theorem dX7_nearestByte_28 : decode cX7_nearestByte 28 = .ok (.getfield 31, 3) := by decide +kernel
theorem dX7_nearestByte_31 : decode cX7_nearestByte 31 = .ok (.iload_n 2, 1) := by decide +kernel
theorem dX7_nearestByte_32 : decode cX7_nearestByte 32 = .ok (.aaload, 1) := by decide +kernel
theorem dX7_nearestByte_33 : decode cX7_nearestByte 33 = .ok (.invokevirtual 205, 3) := by decide +kernel
theorem dX7_nearestByte_36 : decode cX7_nearestByte 36 = .ok (.aload_n 0, 1) := by decide +kernel
theorem dX7_nearestByte_37 : decode cX7_nearestByte 37 = .ok (.getfield 58, 3) := by decide +kernel
theorem dX7_nearestByte_40 : decode cX7_nearestByte 40 = .ok (.getfield 211, 3) := by decide +kernel
theorem dX7_nearestByte_43 : decode cX7_nearestByte 43 = .ok (.ireturn, 1) := by decide +kernel
theorem dX7_held_0 : decode cX7_held 0 = .ok (.iload_n 1, 1) := by decide +kernel
theorem dX7_held_1 : decode cX7_held 1 = .ok (.invokestatic 77, 3) := by decide +kernel
theorem dX7_held_4 : decode cX7_held 4 = .ok (.ifCond .eq 18, 3) := by decide +kernel
theorem dX7_held_7 : decode cX7_held 7 = .ok (.iload_n 2, 1) := by decide +kernel
theorem dX7_held_8 : decode cX7_held 8 = .ok (.invokestatic 77, 3) := by decide +kernel
theorem dX7_held_11 : decode cX7_held 11 = .ok (.ifCond .eq 11, 3) := by decide +kernel
theorem dX7_held_14 : decode cX7_held 14 = .ok (.aload_n 0, 1) := by decide +kernel
theorem dX7_held_15 : decode cX7_held 15 = .ok (.iload_n 3, 1) := by decide +kernel
theorem dX7_held_16 : decode cX7_held 16 = .ok (.invokevirtual 115, 3) := by decide +kernel
theorem dX7_held_19 : decode cX7_held 19 = .ok (.ifCond .ne 5, 3) := by decide +kernel
theorem dX7_held_22 : decode cX7_held 22 = .ok (.iconst (-1), 1) := by decide +kernel
theorem dX7_held_23 : decode cX7_held 23 = .ok (.ireturn, 1) := by decide +kernel
theorem dX7_held_24 : decode cX7_held 24 = .ok (.aload_n 0, 1) := by decide +kernel
theorem dX7_held_25 : decode cX7_held 25 = .ok (.iload_n 1, 1) := by decide +kernel
theorem dX7_held_26 : decode cX7_held 26 = .ok (.iload_n 2, 1) := by decide +kernel
theorem dX7_held_27 : decode cX7_held 27 = .ok (.iload_n 3, 1) := by decide +kernel
theorem dX7_held_28 : decode cX7_held 28 = .ok (.invokevirtual 214, 3) := by decide +kernel
theorem dX7_held_31 : decode cX7_held 31 = .ok (.ireturn, 1) := by decide +kernel
theorem dX7_heldAll_0 : decode cX7_heldAll 0 = .ok (.iload_n 1, 1) := by decide +kernel
theorem dX7_heldAll_1 : decode cX7_heldAll 1 = .ok (.invokestatic 77, 3) := by decide +kernel
theorem dX7_heldAll_4 : decode cX7_heldAll 4 = .ok (.ifCond .eq 20, 3) := by decide +kernel
theorem dX7_heldAll_7 : decode cX7_heldAll 7 = .ok (.iload_n 2, 1) := by decide +kernel
theorem dX7_heldAll_8 : decode cX7_heldAll 8 = .ok (.invokestatic 77, 3) := by decide +kernel
theorem dX7_heldAll_11 : decode cX7_heldAll 11 = .ok (.ifCond .eq 13, 3) := by decide +kernel
theorem dX7_heldAll_14 : decode cX7_heldAll 14 = .ok (.iload_n 3, 1) := by decide +kernel
theorem dX7_heldAll_15 : decode cX7_heldAll 15 = .ok (.ifCond .lt 9, 3) := by decide +kernel
theorem dX7_heldAll_18 : decode cX7_heldAll 18 = .ok (.iload_n 3, 1) := by decide +kernel
theorem dX7_heldAll_19 : decode cX7_heldAll 19 = .ok (.bipush 6, 2) := by decide +kernel
theorem dX7_heldAll_21 : decode cX7_heldAll 21 = .ok (.if_icmp .lt 5, 3) := by decide +kernel
theorem dX7_heldAll_24 : decode cX7_heldAll 24 = .ok (.iconst (-1), 1) := by decide +kernel
theorem dX7_heldAll_25 : decode cX7_heldAll 25 = .ok (.ireturn, 1) := by decide +kernel
theorem dX7_heldAll_26 : decode cX7_heldAll 26 = .ok (.iconst 0, 1) := by decide +kernel
theorem dX7_heldAll_27 : decode cX7_heldAll 27 = .ok (.istore 4, 2) := by decide +kernel
theorem dX7_heldAll_29 : decode cX7_heldAll 29 = .ok (.iconst 0, 1) := by decide +kernel
theorem dX7_heldAll_30 : decode cX7_heldAll 30 = .ok (.istore 5, 2) := by decide +kernel
theorem dX7_heldAll_32 : decode cX7_heldAll 32 = .ok (.iload 5, 2) := by decide +kernel
theorem dX7_heldAll_34 : decode cX7_heldAll 34 = .ok (.aload_n 0, 1) := by decide +kernel
theorem dX7_heldAll_35 : decode cX7_heldAll 35 = .ok (.getfield 62, 3) := by decide +kernel
theorem dX7_heldAll_38 : decode cX7_heldAll 38 = .ok (.if_icmp .ge 24, 3) := by decide +kernel
theorem dX7_heldAll_41 : decode cX7_heldAll 41 = .ok (.aload_n 0, 1) := by decide +kernel
theorem dX7_heldAll_42 : decode cX7_heldAll 42 = .ok (.iload_n 1, 1) := by decide +kernel
theorem dX7_heldAll_43 : decode cX7_heldAll 43 = .ok (.iload_n 2, 1) := by decide +kernel
theorem dX7_heldAll_44 : decode cX7_heldAll 44 = .ok (.iload 5, 2) := by decide +kernel
theorem dX7_heldAll_46 : decode cX7_heldAll 46 = .ok (.invokevirtual 214, 3) := by decide +kernel
theorem dX7_heldAll_49 : decode cX7_heldAll 49 = .ok (.iload_n 3, 1) := by decide +kernel
theorem dX7_heldAll_50 : decode cX7_heldAll 50 = .ok (.if_icmp .ne 6, 3) := by decide +kernel
theorem dX7_heldAll_53 : decode cX7_heldAll 53 = .ok (.iinc 4 1, 3) := by decide +kernel
theorem dX7_heldAll_56 : decode cX7_heldAll 56 = .ok (.iinc 5 1, 3) := by decide +kernel
theorem dX7_heldAll_59 : decode cX7_heldAll 59 = .ok (.goto (-27), 3) := by decide +kernel
theorem dX7_heldAll_62 : decode cX7_heldAll 62 = .ok (.iload 4, 2) := by decide +kernel
theorem dX7_heldAll_64 : decode cX7_heldAll 64 = .ok (.ireturn, 1) := by decide +kernel
theorem dX7_about_0 : decode cX7_about 0 = .ok (.iload_n 1, 1) := by decide +kernel
theorem dX7_about_1 : decode cX7_about 1 = .ok (.ifCond .ne 8, 3) := by decide +kernel
theorem dX7_about_4 : decode cX7_about 4 = .ok (.aload_n 0, 1) := by decide +kernel
theorem dX7_about_5 : decode cX7_about 5 = .ok (.getfield 62, 3) := by decide +kernel
theorem dX7_about_8 : decode cX7_about 8 = .ok (.ireturn, 1) := by decide +kernel
theorem dX7_about_9 : decode cX7_about 9 = .ok (.iload_n 1, 1) := by decide +kernel
theorem dX7_about_10 : decode cX7_about 10 = .ok (.iconst 1, 1) := by decide +kernel
theorem dX7_about_11 : decode cX7_about 11 = .ok (.if_icmp .ne 11, 3) := by decide +kernel
theorem dX7_about_14 : decode cX7_about 14 = .ok (.aload_n 0, 1) := by decide +kernel
theorem dX7_about_15 : decode cX7_about 15 = .ok (.getfield 14, 3) := by decide +kernel
theorem dX7_about_18 : decode cX7_about 18 = .ok (.getfield 71, 3) := by decide +kernel
theorem dX7_about_21 : decode cX7_about 21 = .ok (.ireturn, 1) := by decide +kernel
theorem dX7_about_22 : decode cX7_about 22 = .ok (.iload_n 1, 1) := by decide +kernel
theorem dX7_about_23 : decode cX7_about 23 = .ok (.bipush 10, 2) := by decide +kernel
theorem dX7_about_25 : decode cX7_about 25 = .ok (.if_icmp .lt 22, 3) := by decide +kernel
theorem dX7_about_28 : decode cX7_about 28 = .ok (.iload_n 1, 1) := by decide +kernel
theorem dX7_about_29 : decode cX7_about 29 = .ok (.bipush 13, 2) := by decide +kernel
theorem dX7_about_31 : decode cX7_about 31 = .ok (.if_icmp .ge 16, 3) := by decide +kernel
theorem dX7_about_34 : decode cX7_about 34 = .ok (.aload_n 0, 1) := by decide +kernel
theorem dX7_about_35 : decode cX7_about 35 = .ok (.getfield 20, 3) := by decide +kernel
theorem dX7_about_38 : decode cX7_about 38 = .ok (.iload_n 1, 1) := by decide +kernel
theorem dX7_about_39 : decode cX7_about 39 = .ok (.bipush 10, 2) := by decide +kernel
theorem dX7_about_41 : decode cX7_about 41 = .ok (.isub, 1) := by decide +kernel
theorem dX7_about_42 : decode cX7_about 42 = .ok (.aaload, 1) := by decide +kernel
theorem dX7_about_43 : decode cX7_about 43 = .ok (.getfield 92, 3) := by decide +kernel
theorem dX7_about_46 : decode cX7_about 46 = .ok (.ireturn, 1) := by decide +kernel
theorem dX7_about_47 : decode cX7_about 47 = .ok (.iconst (-1), 1) := by decide +kernel
theorem dX7_about_48 : decode cX7_about 48 = .ok (.ireturn, 1) := by decide +kernel
theorem dX7_addFour_0 : decode cX7_addFour 0 = .ok (.bipush 24, 2) := by decide +kernel
theorem dX7_addFour_2 : decode cX7_addFour 2 = .ok (.istore_n 2, 1) := by decide +kernel
theorem dX7_addFour_3 : decode cX7_addFour 3 = .ok (.iload_n 2, 1) := by decide +kernel
theorem dX7_addFour_4 : decode cX7_addFour 4 = .ok (.ifCond .lt 23, 3) := by decide +kernel
theorem dX7_addFour_7 : decode cX7_addFour 7 = .ok (.aload_n 0, 1) := by decide +kernel
theorem dX7_addFour_8 : decode cX7_addFour 8 = .ok (.getfield 14, 3) := by decide +kernel
theorem dX7_addFour_11 : decode cX7_addFour 11 = .ok (.iload_n 1, 1) := by decide +kernel
theorem dX7_addFour_12 : decode cX7_addFour 12 = .ok (.iload_n 2, 1) := by decide +kernel
theorem dX7_addFour_13 : decode cX7_addFour 13 = .ok (.ishr, 1) := by decide +kernel
theorem dX7_addFour_14 : decode cX7_addFour 14 = .ok (.sipush 255, 3) := by decide +kernel
theorem dX7_addFour_17 : decode cX7_addFour 17 = .ok (.iand, 1) := by decide +kernel
theorem dX7_addFour_18 : decode cX7_addFour 18 = .ok (.invokevirtual 218, 3) := by decide +kernel
theorem dX7_addFour_21 : decode cX7_addFour 21 = .ok (.iinc 2 (-8), 3) := by decide +kernel
theorem dX7_addFour_24 : decode cX7_addFour 24 = .ok (.goto (-21), 3) := by decide +kernel
theorem dX7_addFour_27 : decode cX7_addFour 27 = .ok (.return_, 1) := by decide +kernel
theorem dX7_isInput_0 : decode cX7_isInput 0 = .ok (.iload_n 1, 1) := by decide +kernel
theorem dX7_isInput_1 : decode cX7_isInput 1 = .ok (.ifCond .lt 15, 3) := by decide +kernel
theorem dX7_isInput_4 : decode cX7_isInput 4 = .ok (.iload_n 1, 1) := by decide +kernel
theorem dX7_isInput_5 : decode cX7_isInput 5 = .ok (.aload_n 0, 1) := by decide +kernel
theorem dX7_isInput_6 : decode cX7_isInput 6 = .ok (.getfield 62, 3) := by decide +kernel
theorem dX7_isInput_9 : decode cX7_isInput 9 = .ok (.if_icmp .ge 7, 3) := by decide +kernel
theorem dX7_isInput_12 : decode cX7_isInput 12 = .ok (.iconst 1, 1) := by decide +kernel
theorem dX7_isInput_13 : decode cX7_isInput 13 = .ok (.goto 4, 3) := by decide +kernel
theorem dX7_isInput_16 : decode cX7_isInput 16 = .ok (.iconst 0, 1) := by decide +kernel
theorem dX7_isInput_17 : decode cX7_isInput 17 = .ok (.ireturn, 1) := by decide +kernel
theorem dX7_sortInputs_0 : decode cX7_sortInputs 0 = .ok (.aload_n 0, 1) := by decide +kernel
theorem dX7_sortInputs_1 : decode cX7_sortInputs 1 = .ok (.getfield 51, 3) := by decide +kernel
theorem dX7_sortInputs_4 : decode cX7_sortInputs 4 = .ok (.iconst 0, 1) := by decide +kernel
theorem dX7_sortInputs_5 : decode cX7_sortInputs 5 = .ok (.putfield 174, 3) := by decide +kernel
theorem dX7_sortInputs_8 : decode cX7_sortInputs 8 = .ok (.iconst 0, 1) := by decide +kernel
theorem dX7_sortInputs_9 : decode cX7_sortInputs 9 = .ok (.istore_n 2, 1) := by decide +kernel
theorem dX7_sortInputs_10 : decode cX7_sortInputs 10 = .ok (.iload_n 2, 1) := by decide +kernel
theorem dX7_sortInputs_11 : decode cX7_sortInputs 11 = .ok (.aload_n 0, 1) := by decide +kernel
theorem dX7_sortInputs_12 : decode cX7_sortInputs 12 = .ok (.getfield 62, 3) := by decide +kernel
theorem dX7_sortInputs_15 : decode cX7_sortInputs 15 = .ok (.if_icmp .ge 40, 3) := by decide +kernel
theorem dX7_sortInputs_18 : decode cX7_sortInputs 18 = .ok (.aload_n 0, 1) := by decide +kernel
theorem dX7_sortInputs_19 : decode cX7_sortInputs 19 = .ok (.getfield 42, 3) := by decide +kernel
theorem dX7_sortInputs_22 : decode cX7_sortInputs 22 = .ok (.aload_n 0, 1) := by decide +kernel
theorem dX7_sortInputs_23 : decode cX7_sortInputs 23 = .ok (.getfield 20, 3) := by decide +kernel
theorem dX7_sortInputs_26 : decode cX7_sortInputs 26 = .ok (.iload_n 1, 1) := by decide +kernel
theorem dX7_sortInputs_27 : decode cX7_sortInputs 27 = .ok (.aaload, 1) := by decide +kernel
theorem dX7_sortInputs_28 : decode cX7_sortInputs 28 = .ok (.aload_n 0, 1) := by decide +kernel
theorem dX7_sortInputs_29 : decode cX7_sortInputs 29 = .ok (.getfield 31, 3) := by decide +kernel
theorem dX7_sortInputs_32 : decode cX7_sortInputs 32 = .ok (.iload_n 2, 1) := by decide +kernel
theorem dX7_sortInputs_33 : decode cX7_sortInputs 33 = .ok (.aaload, 1) := by decide +kernel
theorem dX7_sortInputs_34 : decode cX7_sortInputs 34 = .ok (.invokevirtual 122, 3) := by decide +kernel
theorem dX7_sortInputs_37 : decode cX7_sortInputs 37 = .ok (.aload_n 0, 1) := by decide +kernel
theorem dX7_sortInputs_38 : decode cX7_sortInputs 38 = .ok (.getfield 51, 3) := by decide +kernel
theorem dX7_sortInputs_41 : decode cX7_sortInputs 41 = .ok (.iload_n 2, 1) := by decide +kernel
theorem dX7_sortInputs_42 : decode cX7_sortInputs 42 = .ok (.aload_n 0, 1) := by decide +kernel
theorem dX7_sortInputs_43 : decode cX7_sortInputs 43 = .ok (.getfield 42, 3) := by decide +kernel
theorem dX7_sortInputs_46 : decode cX7_sortInputs 46 = .ok (.invokevirtual 221, 3) := by decide +kernel
theorem dX7_sortInputs_49 : decode cX7_sortInputs 49 = .ok (.iinc 2 1, 3) := by decide +kernel
theorem dX7_sortInputs_52 : decode cX7_sortInputs 52 = .ok (.goto (-42), 3) := by decide +kernel
theorem dX7_sortInputs_55 : decode cX7_sortInputs 55 = .ok (.return_, 1) := by decide +kernel
theorem dX7_holdOne_0 : decode cX7_holdOne 0 = .ok (.aload_n 0, 1) := by decide +kernel
theorem dX7_holdOne_1 : decode cX7_holdOne 1 = .ok (.getfield 42, 3) := by decide +kernel
theorem dX7_holdOne_4 : decode cX7_holdOne 4 = .ok (.aload_n 0, 1) := by decide +kernel
theorem dX7_holdOne_5 : decode cX7_holdOne 5 = .ok (.getfield 20, 3) := by decide +kernel
theorem dX7_holdOne_8 : decode cX7_holdOne 8 = .ok (.iload_n 1, 1) := by decide +kernel
theorem dX7_holdOne_9 : decode cX7_holdOne 9 = .ok (.aaload, 1) := by decide +kernel
theorem dX7_holdOne_10 : decode cX7_holdOne 10 = .ok (.aload_n 0, 1) := by decide +kernel
theorem dX7_holdOne_11 : decode cX7_holdOne 11 = .ok (.getfield 31, 3) := by decide +kernel
theorem dX7_holdOne_14 : decode cX7_holdOne 14 = .ok (.iload_n 3, 1) := by decide +kernel
theorem dX7_holdOne_15 : decode cX7_holdOne 15 = .ok (.aaload, 1) := by decide +kernel
theorem dX7_holdOne_16 : decode cX7_holdOne 16 = .ok (.invokevirtual 122, 3) := by decide +kernel
theorem dX7_holdOne_19 : decode cX7_holdOne 19 = .ok (.aload_n 0, 1) := by decide +kernel
theorem dX7_holdOne_20 : decode cX7_holdOne 20 = .ok (.getfield 45, 3) := by decide +kernel
theorem dX7_holdOne_23 : decode cX7_holdOne 23 = .ok (.aload_n 0, 1) := by decide +kernel
theorem dX7_holdOne_24 : decode cX7_holdOne 24 = .ok (.getfield 20, 3) := by decide +kernel
theorem dX7_holdOne_27 : decode cX7_holdOne 27 = .ok (.iload_n 2, 1) := by decide +kernel
theorem dX7_holdOne_28 : decode cX7_holdOne 28 = .ok (.aaload, 1) := by decide +kernel
theorem dX7_holdOne_29 : decode cX7_holdOne 29 = .ok (.aload_n 0, 1) := by decide +kernel
theorem dX7_holdOne_30 : decode cX7_holdOne 30 = .ok (.getfield 31, 3) := by decide +kernel
theorem dX7_holdOne_33 : decode cX7_holdOne 33 = .ok (.iload_n 3, 1) := by decide +kernel
theorem dX7_holdOne_34 : decode cX7_holdOne 34 = .ok (.aaload, 1) := by decide +kernel
theorem dX7_holdOne_35 : decode cX7_holdOne 35 = .ok (.invokevirtual 122, 3) := by decide +kernel
theorem dX7_holdOne_38 : decode cX7_holdOne 38 = .ok (.aload_n 0, 1) := by decide +kernel
theorem dX7_holdOne_39 : decode cX7_holdOne 39 = .ok (.getfield 42, 3) := by decide +kernel
theorem dX7_holdOne_42 : decode cX7_holdOne 42 = .ok (.getfield 126, 3) := by decide +kernel
theorem dX7_holdOne_45 : decode cX7_holdOne 45 = .ok (.ifCond .ne 7, 3) := by decide +kernel
theorem dX7_holdOne_48 : decode cX7_holdOne 48 = .ok (.iconst 1, 1) := by decide +kernel
theorem dX7_holdOne_49 : decode cX7_holdOne 49 = .ok (.goto 4, 3) := by decide +kernel
theorem dX7_holdOne_52 : decode cX7_holdOne 52 = .ok (.iconst 0, 1) := by decide +kernel
theorem dX7_holdOne_53 : decode cX7_holdOne 53 = .ok (.istore 4, 2) := by decide +kernel
theorem dX7_holdOne_55 : decode cX7_holdOne 55 = .ok (.aload_n 0, 1) := by decide +kernel
theorem dX7_holdOne_56 : decode cX7_holdOne 56 = .ok (.getfield 45, 3) := by decide +kernel
theorem dX7_holdOne_59 : decode cX7_holdOne 59 = .ok (.getfield 126, 3) := by decide +kernel
theorem dX7_holdOne_62 : decode cX7_holdOne 62 = .ok (.ifCond .ne 7, 3) := by decide +kernel
theorem dX7_holdOne_65 : decode cX7_holdOne 65 = .ok (.iconst 1, 1) := by decide +kernel
theorem dX7_holdOne_66 : decode cX7_holdOne 66 = .ok (.goto 4, 3) := by decide +kernel
theorem dX7_holdOne_69 : decode cX7_holdOne 69 = .ok (.iconst 0, 1) := by decide +kernel
theorem dX7_holdOne_70 : decode cX7_holdOne 70 = .ok (.istore 5, 2) := by decide +kernel
theorem dX7_holdOne_72 : decode cX7_holdOne 72 = .ok (.iload 4, 2) := by decide +kernel
theorem dX7_holdOne_74 : decode cX7_holdOne 74 = .ok (.ifCond .eq 28, 3) := by decide +kernel
theorem dX7_holdOne_77 : decode cX7_holdOne 77 = .ok (.iload 5, 2) := by decide +kernel
theorem dX7_holdOne_79 : decode cX7_holdOne 79 = .ok (.ifCond .eq 23, 3) := by decide +kernel
theorem dX7_holdOne_82 : decode cX7_holdOne 82 = .ok (.aload_n 0, 1) := by decide +kernel
theorem dX7_holdOne_83 : decode cX7_holdOne 83 = .ok (.getfield 42, 3) := by decide +kernel
theorem dX7_holdOne_86 : decode cX7_holdOne 86 = .ok (.aload_n 0, 1) := by decide +kernel
theorem dX7_holdOne_87 : decode cX7_holdOne 87 = .ok (.getfield 45, 3) := by decide +kernel
theorem dX7_holdOne_90 : decode cX7_holdOne 90 = .ok (.invokevirtual 225, 3) := by decide +kernel
theorem dX7_holdOne_93 : decode cX7_holdOne 93 = .ok (.ifCond .eq 7, 3) := by decide +kernel
theorem dX7_holdOne_96 : decode cX7_holdOne 96 = .ok (.iconst 0, 1) := by decide +kernel
theorem dX7_holdOne_97 : decode cX7_holdOne 97 = .ok (.goto 4, 3) := by decide +kernel
theorem dX7_holdOne_100 : decode cX7_holdOne 100 = .ok (.iconst 1, 1) := by decide +kernel
theorem dX7_holdOne_101 : decode cX7_holdOne 101 = .ok (.ireturn, 1) := by decide +kernel
theorem dX7_holdOne_102 : decode cX7_holdOne 102 = .ok (.iload 5, 2) := by decide +kernel
theorem dX7_holdOne_104 : decode cX7_holdOne 104 = .ok (.ifCond .eq 5, 3) := by decide +kernel
theorem dX7_holdOne_107 : decode cX7_holdOne 107 = .ok (.iconst 2, 1) := by decide +kernel
theorem dX7_holdOne_108 : decode cX7_holdOne 108 = .ok (.ireturn, 1) := by decide +kernel
theorem dX7_holdOne_109 : decode cX7_holdOne 109 = .ok (.iload 4, 2) := by decide +kernel
theorem dX7_holdOne_111 : decode cX7_holdOne 111 = .ok (.ifCond .eq 5, 3) := by decide +kernel
theorem dX7_holdOne_114 : decode cX7_holdOne 114 = .ok (.iconst 3, 1) := by decide +kernel
theorem dX7_holdOne_115 : decode cX7_holdOne 115 = .ok (.ireturn, 1) := by decide +kernel
theorem dX7_holdOne_116 : decode cX7_holdOne 116 = .ok (.aload_n 0, 1) := by decide +kernel
theorem dX7_holdOne_117 : decode cX7_holdOne 117 = .ok (.getfield 42, 3) := by decide +kernel
theorem dX7_holdOne_120 : decode cX7_holdOne 120 = .ok (.getfield 126, 3) := by decide +kernel
theorem dX7_holdOne_123 : decode cX7_holdOne 123 = .ok (.aload_n 0, 1) := by decide +kernel
theorem dX7_holdOne_124 : decode cX7_holdOne 124 = .ok (.getfield 45, 3) := by decide +kernel
theorem dX7_holdOne_127 : decode cX7_holdOne 127 = .ok (.getfield 126, 3) := by decide +kernel
theorem dX7_holdOne_130 : decode cX7_holdOne 130 = .ok (.if_icmp .ne 7, 3) := by decide +kernel
theorem dX7_holdOne_133 : decode cX7_holdOne 133 = .ok (.iconst 4, 1) := by decide +kernel
theorem dX7_holdOne_134 : decode cX7_holdOne 134 = .ok (.goto 4, 3) := by decide +kernel
theorem dX7_holdOne_137 : decode cX7_holdOne 137 = .ok (.iconst 5, 1) := by decide +kernel
theorem dX7_holdOne_138 : decode cX7_holdOne 138 = .ok (.ireturn, 1) := by decide +kernel
theorem dX7_isShelf_0 : decode cX7_isShelf 0 = .ok (.iload_n 0, 1) := by decide +kernel
theorem dX7_isShelf_1 : decode cX7_isShelf 1 = .ok (.ifCond .lt 12, 3) := by decide +kernel
theorem dX7_isShelf_4 : decode cX7_isShelf 4 = .ok (.iload_n 0, 1) := by decide +kernel
theorem dX7_isShelf_5 : decode cX7_isShelf 5 = .ok (.iconst 3, 1) := by decide +kernel
theorem dX7_isShelf_6 : decode cX7_isShelf 6 = .ok (.if_icmp .ge 7, 3) := by decide +kernel
theorem dX7_isShelf_9 : decode cX7_isShelf 9 = .ok (.iconst 1, 1) := by decide +kernel
theorem dX7_isShelf_10 : decode cX7_isShelf 10 = .ok (.goto 4, 3) := by decide +kernel
theorem dX7_isShelf_13 : decode cX7_isShelf 13 = .ok (.iconst 0, 1) := by decide +kernel
theorem dX7_isShelf_14 : decode cX7_isShelf 14 = .ok (.ireturn, 1) := by decide +kernel
theorem dX7_isCell_0 : decode cX7_isCell 0 = .ok (.iload_n 0, 1) := by decide +kernel
theorem dX7_isCell_1 : decode cX7_isCell 1 = .ok (.ifCond .lt 13, 3) := by decide +kernel
theorem dX7_isCell_4 : decode cX7_isCell 4 = .ok (.iload_n 0, 1) := by decide +kernel
theorem dX7_isCell_5 : decode cX7_isCell 5 = .ok (.bipush 40, 2) := by decide +kernel
theorem dX7_isCell_7 : decode cX7_isCell 7 = .ok (.if_icmp .ge 7, 3) := by decide +kernel
theorem dX7_isCell_10 : decode cX7_isCell 10 = .ok (.iconst 1, 1) := by decide +kernel
theorem dX7_isCell_11 : decode cX7_isCell 11 = .ok (.goto 4, 3) := by decide +kernel
theorem dX7_isCell_14 : decode cX7_isCell 14 = .ok (.iconst 0, 1) := by decide +kernel
theorem dX7_isCell_15 : decode cX7_isCell 15 = .ok (.ireturn, 1) := by decide +kernel
theorem dX7_isLetter_0 : decode cX7_isLetter 0 = .ok (.iload_n 0, 1) := by decide +kernel
theorem dX7_isLetter_1 : decode cX7_isLetter 1 = .ok (.bipush 97, 2) := by decide +kernel
theorem dX7_isLetter_3 : decode cX7_isLetter 3 = .ok (.if_icmp .lt 13, 3) := by decide +kernel
theorem dX7_isLetter_6 : decode cX7_isLetter 6 = .ok (.iload_n 0, 1) := by decide +kernel
theorem dX7_isLetter_7 : decode cX7_isLetter 7 = .ok (.bipush 122, 2) := by decide +kernel
theorem dX7_isLetter_9 : decode cX7_isLetter 9 = .ok (.if_icmp .gt 7, 3) := by decide +kernel
theorem dX7_isLetter_12 : decode cX7_isLetter 12 = .ok (.iconst 1, 1) := by decide +kernel
theorem dX7_isLetter_13 : decode cX7_isLetter 13 = .ok (.goto 4, 3) := by decide +kernel
theorem dX7_isLetter_16 : decode cX7_isLetter 16 = .ok (.iconst 0, 1) := by decide +kernel
theorem dX7_isLetter_17 : decode cX7_isLetter 17 = .ok (.ireturn, 1) := by decide +kernel
theorem dX7_isDigit_0 : decode cX7_isDigit 0 = .ok (.iload_n 0, 1) := by decide +kernel
theorem dX7_isDigit_1 : decode cX7_isDigit 1 = .ok (.bipush 48, 2) := by decide +kernel
theorem dX7_isDigit_3 : decode cX7_isDigit 3 = .ok (.if_icmp .lt 13, 3) := by decide +kernel
theorem dX7_isDigit_6 : decode cX7_isDigit 6 = .ok (.iload_n 0, 1) := by decide +kernel
theorem dX7_isDigit_7 : decode cX7_isDigit 7 = .ok (.bipush 57, 2) := by decide +kernel
theorem dX7_isDigit_9 : decode cX7_isDigit 9 = .ok (.if_icmp .gt 7, 3) := by decide +kernel
theorem dX7_isDigit_12 : decode cX7_isDigit 12 = .ok (.iconst 1, 1) := by decide +kernel
theorem dX7_isDigit_13 : decode cX7_isDigit 13 = .ok (.goto 4, 3) := by decide +kernel
theorem dX7_isDigit_16 : decode cX7_isDigit 16 = .ok (.iconst 0, 1) := by decide +kernel
theorem dX7_isDigit_17 : decode cX7_isDigit 17 = .ok (.ireturn, 1) := by decide +kernel
theorem dX7_withLetter_0 : decode cX7_withLetter 0 = .ok (.lload_n 0, 1) := by decide +kernel
theorem dX7_withLetter_1 : decode cX7_withLetter 1 = .ok (.ldc2_w 229, 3) := by decide +kernel
theorem dX7_withLetter_4 : decode cX7_withLetter 4 = .ok (.lmul, 1) := by decide +kernel
theorem dX7_withLetter_5 : decode cX7_withLetter 5 = .ok (.iload_n 2, 1) := by decide +kernel
theorem dX7_withLetter_6 : decode cX7_withLetter 6 = .ok (.bipush 97, 2) := by decide +kernel
theorem dX7_withLetter_8 : decode cX7_withLetter 8 = .ok (.isub, 1) := by decide +kernel
theorem dX7_withLetter_9 : decode cX7_withLetter 9 = .ok (.iconst 1, 1) := by decide +kernel
theorem dX7_withLetter_10 : decode cX7_withLetter 10 = .ok (.iadd, 1) := by decide +kernel
theorem dX7_withLetter_11 : decode cX7_withLetter 11 = .ok (.i2l, 1) := by decide +kernel
theorem dX7_withLetter_12 : decode cX7_withLetter 12 = .ok (.ladd, 1) := by decide +kernel
theorem dX7_withLetter_13 : decode cX7_withLetter 13 = .ok (.lreturn, 1) := by decide +kernel
theorem dX8_init_0 : decode cX8_init 0 = .ok (.aload_n 0, 1) := by decide +kernel
theorem dX8_init_1 : decode cX8_init 1 = .ok (.invokespecial 1, 3) := by decide +kernel
theorem dX8_init_4 : decode cX8_init 4 = .ok (.aload_n 0, 1) := by decide +kernel
theorem dX8_init_5 : decode cX8_init 5 = .ok (.sipush 1020, 3) := by decide +kernel
theorem dX8_init_8 : decode cX8_init 8 = .ok (.newarray .byte, 2) := by decide +kernel
theorem dX8_init_10 : decode cX8_init 10 = .ok (.putfield 7, 3) := by decide +kernel
theorem dX8_init_13 : decode cX8_init 13 = .ok (.aload_n 0, 1) := by decide +kernel
theorem dX8_init_14 : decode cX8_init 14 = .ok (.sipush 1000, 3) := by decide +kernel
theorem dX8_init_17 : decode cX8_init 17 = .ok (.newarray .byte, 2) := by decide +kernel
theorem dX8_init_19 : decode cX8_init 19 = .ok (.putfield 13, 3) := by decide +kernel
theorem dX8_init_22 : decode cX8_init 22 = .ok (.aload_n 0, 1) := by decide +kernel
theorem dX8_init_23 : decode cX8_init 23 = .ok (.iconst (-1), 1) := by decide +kernel
theorem dX8_init_24 : decode cX8_init 24 = .ok (.putfield 16, 3) := by decide +kernel
theorem dX8_init_27 : decode cX8_init 27 = .ok (.aload_n 0, 1) := by decide +kernel
theorem dX8_init_28 : decode cX8_init 28 = .ok (.sipush 320, 3) := by decide +kernel
theorem dX8_init_31 : decode cX8_init 31 = .ok (.newarray .int, 2) := by decide +kernel
theorem dX8_init_33 : decode cX8_init 33 = .ok (.putfield 20, 3) := by decide +kernel
theorem dX8_init_36 : decode cX8_init 36 = .ok (.aload_n 0, 1) := by decide +kernel
theorem dX8_init_37 : decode cX8_init 37 = .ok (.sipush 320, 3) := by decide +kernel
theorem dX8_init_40 : decode cX8_init 40 = .ok (.newarray .int, 2) := by decide +kernel
theorem dX8_init_42 : decode cX8_init 42 = .ok (.putfield 24, 3) := by decide +kernel
theorem dX8_init_45 : decode cX8_init 45 = .ok (.aload_n 0, 1) := by decide +kernel
theorem dX8_init_46 : decode cX8_init 46 = .ok (.sipush 320, 3) := by decide +kernel
theorem dX8_init_49 : decode cX8_init 49 = .ok (.newarray .int, 2) := by decide +kernel
theorem dX8_init_51 : decode cX8_init 51 = .ok (.putfield 27, 3) := by decide +kernel
theorem dX8_init_54 : decode cX8_init 54 = .ok (.aload_n 0, 1) := by decide +kernel
theorem dX8_init_55 : decode cX8_init 55 = .ok (.sipush 320, 3) := by decide +kernel
theorem dX8_init_58 : decode cX8_init 58 = .ok (.newarray .int, 2) := by decide +kernel
theorem dX8_init_60 : decode cX8_init 60 = .ok (.putfield 30, 3) := by decide +kernel
theorem dX8_init_63 : decode cX8_init 63 = .ok (.aload_n 0, 1) := by decide +kernel
theorem dX8_init_64 : decode cX8_init 64 = .ok (.iconst 4, 1) := by decide +kernel
theorem dX8_init_65 : decode cX8_init 65 = .ok (.newarray .int, 2) := by decide +kernel
theorem dX8_init_67 : decode cX8_init 67 = .ok (.putfield 33, 3) := by decide +kernel
theorem dX8_init_70 : decode cX8_init 70 = .ok (.aload_n 0, 1) := by decide +kernel
theorem dX8_init_71 : decode cX8_init 71 = .ok (.bipush 20, 2) := by decide +kernel
theorem dX8_init_73 : decode cX8_init 73 = .ok (.newarray .int, 2) := by decide +kernel
theorem dX8_init_75 : decode cX8_init 75 = .ok (.putfield 36, 3) := by decide +kernel
theorem dX8_init_78 : decode cX8_init 78 = .ok (.aload_n 0, 1) := by decide +kernel
theorem dX8_init_79 : decode cX8_init 79 = .ok (.bipush 80, 2) := by decide +kernel
theorem dX8_init_81 : decode cX8_init 81 = .ok (.newarray .int, 2) := by decide +kernel
theorem dX8_init_83 : decode cX8_init 83 = .ok (.putfield 39, 3) := by decide +kernel
theorem dX8_init_86 : decode cX8_init 86 = .ok (.aload_n 0, 1) := by decide +kernel
theorem dX8_init_87 : decode cX8_init 87 = .ok (.bipush 20, 2) := by decide +kernel
theorem dX8_init_89 : decode cX8_init 89 = .ok (.newarray .long, 2) := by decide +kernel
theorem dX8_init_91 : decode cX8_init 91 = .ok (.putfield 42, 3) := by decide +kernel
theorem dX8_init_94 : decode cX8_init 94 = .ok (.aload_n 0, 1) := by decide +kernel
theorem dX8_init_95 : decode cX8_init 95 = .ok (.bipush 80, 2) := by decide +kernel
theorem dX8_init_97 : decode cX8_init 97 = .ok (.newarray .long, 2) := by decide +kernel
theorem dX8_init_99 : decode cX8_init 99 = .ok (.putfield 46, 3) := by decide +kernel
theorem dX8_init_102 : decode cX8_init 102 = .ok (.aload_n 0, 1) := by decide +kernel
theorem dX8_init_103 : decode cX8_init 103 = .ok (.sipush 720, 3) := by decide +kernel
theorem dX8_init_106 : decode cX8_init 106 = .ok (.newarray .int, 2) := by decide +kernel
theorem dX8_init_108 : decode cX8_init 108 = .ok (.putfield 49, 3) := by decide +kernel
theorem dX8_init_111 : decode cX8_init 111 = .ok (.aload_n 0, 1) := by decide +kernel
theorem dX8_init_112 : decode cX8_init 112 = .ok (.bipush 30, 2) := by decide +kernel
theorem dX8_init_114 : decode cX8_init 114 = .ok (.newarray .int, 2) := by decide +kernel
theorem dX8_init_116 : decode cX8_init 116 = .ok (.putfield 52, 3) := by decide +kernel
theorem dX8_init_119 : decode cX8_init 119 = .ok (.aload_n 0, 1) := by decide +kernel
theorem dX8_init_120 : decode cX8_init 120 = .ok (.bipush 24, 2) := by decide +kernel
theorem dX8_init_122 : decode cX8_init 122 = .ok (.newarray .int, 2) := by decide +kernel
theorem dX8_init_124 : decode cX8_init 124 = .ok (.putfield 55, 3) := by decide +kernel
theorem dX8_init_127 : decode cX8_init 127 = .ok (.aload_n 0, 1) := by decide +kernel
theorem dX8_init_128 : decode cX8_init 128 = .ok (.bipush 40, 2) := by decide +kernel
theorem dX8_init_130 : decode cX8_init 130 = .ok (.newarray .int, 2) := by decide +kernel
theorem dX8_init_132 : decode cX8_init 132 = .ok (.putfield 58, 3) := by decide +kernel
theorem dX8_init_135 : decode cX8_init 135 = .ok (.aload_n 0, 1) := by decide +kernel
theorem dX8_init_136 : decode cX8_init 136 = .ok (.bipush 40, 2) := by decide +kernel
theorem dX8_init_138 : decode cX8_init 138 = .ok (.newarray .int, 2) := by decide +kernel
theorem dX8_init_140 : decode cX8_init 140 = .ok (.putfield 61, 3) := by decide +kernel
theorem dX8_init_143 : decode cX8_init 143 = .ok (.aload_n 0, 1) := by decide +kernel
theorem dX8_init_144 : decode cX8_init 144 = .ok (.bipush 40, 2) := by decide +kernel
theorem dX8_init_146 : decode cX8_init 146 = .ok (.newarray .int, 2) := by decide +kernel
theorem dX8_init_148 : decode cX8_init 148 = .ok (.putfield 64, 3) := by decide +kernel
theorem dX8_init_151 : decode cX8_init 151 = .ok (.aload_n 0, 1) := by decide +kernel
theorem dX8_init_152 : decode cX8_init 152 = .ok (.bipush 40, 2) := by decide +kernel
theorem dX8_init_154 : decode cX8_init 154 = .ok (.newarray .int, 2) := by decide +kernel
theorem dX8_init_156 : decode cX8_init 156 = .ok (.putfield 67, 3) := by decide +kernel
theorem dX8_init_159 : decode cX8_init 159 = .ok (.aload_n 0, 1) := by decide +kernel
theorem dX8_init_160 : decode cX8_init 160 = .ok (.bipush 40, 2) := by decide +kernel
theorem dX8_init_162 : decode cX8_init 162 = .ok (.newarray .int, 2) := by decide +kernel
theorem dX8_init_164 : decode cX8_init 164 = .ok (.putfield 70, 3) := by decide +kernel
theorem dX8_init_167 : decode cX8_init 167 = .ok (.aload_n 0, 1) := by decide +kernel
theorem dX8_init_168 : decode cX8_init 168 = .ok (.bipush 40, 2) := by decide +kernel
theorem dX8_init_170 : decode cX8_init 170 = .ok (.newarray .int, 2) := by decide +kernel
theorem dX8_init_172 : decode cX8_init 172 = .ok (.putfield 73, 3) := by decide +kernel
theorem dX8_init_175 : decode cX8_init 175 = .ok (.aload_n 0, 1) := by decide +kernel
theorem dX8_init_176 : decode cX8_init 176 = .ok (.bipush 40, 2) := by decide +kernel
theorem dX8_init_178 : decode cX8_init 178 = .ok (.newarray .int, 2) := by decide +kernel
theorem dX8_init_180 : decode cX8_init 180 = .ok (.putfield 76, 3) := by decide +kernel
theorem dX8_init_183 : decode cX8_init 183 = .ok (.aload_n 0, 1) := by decide +kernel
theorem dX8_init_184 : decode cX8_init 184 = .ok (.bipush 40, 2) := by decide +kernel
theorem dX8_init_186 : decode cX8_init 186 = .ok (.newarray .int, 2) := by decide +kernel
theorem dX8_init_188 : decode cX8_init 188 = .ok (.putfield 79, 3) := by decide +kernel
theorem dX8_init_191 : decode cX8_init 191 = .ok (.aload_n 0, 1) := by decide +kernel
theorem dX8_init_192 : decode cX8_init 192 = .ok (.bipush 7, 2) := by decide +kernel
theorem dX8_init_194 : decode cX8_init 194 = .ok (.newarray .int, 2) := by decide +kernel
theorem dX8_init_196 : decode cX8_init 196 = .ok (.putfield 82, 3) := by decide +kernel
theorem dX8_init_199 : decode cX8_init 199 = .ok (.aload_n 0, 1) := by decide +kernel
theorem dX8_init_200 : decode cX8_init 200 = .ok (.bipush 30, 2) := by decide +kernel
theorem dX8_init_202 : decode cX8_init 202 = .ok (.newarray .int, 2) := by decide +kernel
theorem dX8_init_204 : decode cX8_init 204 = .ok (.putfield 85, 3) := by decide +kernel
theorem dX8_init_207 : decode cX8_init 207 = .ok (.aload_n 0, 1) := by decide +kernel
theorem dX8_init_208 : decode cX8_init 208 = .ok (.bipush 30, 2) := by decide +kernel
theorem dX8_init_210 : decode cX8_init 210 = .ok (.newarray .int, 2) := by decide +kernel
theorem dX8_init_212 : decode cX8_init 212 = .ok (.putfield 88, 3) := by decide +kernel
theorem dX8_init_215 : decode cX8_init 215 = .ok (.aload_n 0, 1) := by decide +kernel
theorem dX8_init_216 : decode cX8_init 216 = .ok (.bipush 30, 2) := by decide +kernel
theorem dX8_init_218 : decode cX8_init 218 = .ok (.newarray .int, 2) := by decide +kernel
theorem dX8_init_220 : decode cX8_init 220 = .ok (.putfield 91, 3) := by decide +kernel
theorem dX8_init_223 : decode cX8_init 223 = .ok (.aload_n 0, 1) := by decide +kernel
theorem dX8_init_224 : decode cX8_init 224 = .ok (.bipush 30, 2) := by decide +kernel
theorem dX8_init_226 : decode cX8_init 226 = .ok (.newarray .int, 2) := by decide +kernel
theorem dX8_init_228 : decode cX8_init 228 = .ok (.putfield 94, 3) := by decide +kernel
theorem dX8_init_231 : decode cX8_init 231 = .ok (.aload_n 0, 1) := by decide +kernel
theorem dX8_init_232 : decode cX8_init 232 = .ok (.bipush 30, 2) := by decide +kernel
theorem dX8_init_234 : decode cX8_init 234 = .ok (.newarray .int, 2) := by decide +kernel
theorem dX8_init_236 : decode cX8_init 236 = .ok (.putfield 97, 3) := by decide +kernel
theorem dX8_init_239 : decode cX8_init 239 = .ok (.aload_n 0, 1) := by decide +kernel
theorem dX8_init_240 : decode cX8_init 240 = .ok (.bipush 24, 2) := by decide +kernel
theorem dX8_init_242 : decode cX8_init 242 = .ok (.newarray .int, 2) := by decide +kernel
theorem dX8_init_244 : decode cX8_init 244 = .ok (.putfield 100, 3) := by decide +kernel
theorem dX8_init_247 : decode cX8_init 247 = .ok (.aload_n 0, 1) := by decide +kernel
theorem dX8_init_248 : decode cX8_init 248 = .ok (.bipush 24, 2) := by decide +kernel
theorem dX8_init_250 : decode cX8_init 250 = .ok (.newarray .int, 2) := by decide +kernel
theorem dX8_init_252 : decode cX8_init 252 = .ok (.putfield 103, 3) := by decide +kernel
theorem dX8_init_255 : decode cX8_init 255 = .ok (.aload_n 0, 1) := by decide +kernel
theorem dX8_init_256 : decode cX8_init 256 = .ok (.iconst (-1), 1) := by decide +kernel
theorem dX8_init_257 : decode cX8_init 257 = .ok (.putfield 106, 3) := by decide +kernel
theorem dX8_init_260 : decode cX8_init 260 = .ok (.aload_n 0, 1) := by decide +kernel
theorem dX8_init_261 : decode cX8_init 261 = .ok (.bipush 40, 2) := by decide +kernel
theorem dX8_init_263 : decode cX8_init 263 = .ok (.newarray .int, 2) := by decide +kernel
theorem dX8_init_265 : decode cX8_init 265 = .ok (.putfield 109, 3) := by decide +kernel
theorem dX8_init_268 : decode cX8_init 268 = .ok (.return_, 1) := by decide +kernel
theorem dX8_sign_0 : decode cX8_sign 0 = .ok (.iload_n 1, 1) := by decide +kernel
theorem dX8_sign_1 : decode cX8_sign 1 = .ok (.aload_n 0, 1) := by decide +kernel
theorem dX8_sign_2 : decode cX8_sign 2 = .ok (.getfield 112, 3) := by decide +kernel
theorem dX8_sign_5 : decode cX8_sign 5 = .ok (.if_icmp .ge 16, 3) := by decide +kernel
theorem dX8_sign_8 : decode cX8_sign 8 = .ok (.aload_n 0, 1) := by decide +kernel
theorem dX8_sign_9 : decode cX8_sign 9 = .ok (.getfield 13, 3) := by decide +kernel
theorem dX8_sign_12 : decode cX8_sign 12 = .ok (.iload_n 1, 1) := by decide +kernel
theorem dX8_sign_13 : decode cX8_sign 13 = .ok (.baload, 1) := by decide +kernel
theorem dX8_sign_14 : decode cX8_sign 14 = .ok (.sipush 255, 3) := by decide +kernel
theorem dX8_sign_17 : decode cX8_sign 17 = .ok (.iand, 1) := by decide +kernel
theorem dX8_sign_18 : decode cX8_sign 18 = .ok (.goto 4, 3) := by decide +kernel
theorem dX8_sign_21 : decode cX8_sign 21 = .ok (.iconst 0, 1) := by decide +kernel
theorem dX8_sign_22 : decode cX8_sign 22 = .ok (.ireturn, 1) := by decide +kernel
theorem dX8_isLetter_0 : decode cX8_isLetter 0 = .ok (.iload_n 0, 1) := by decide +kernel
theorem dX8_isLetter_1 : decode cX8_isLetter 1 = .ok (.bipush 97, 2) := by decide +kernel
theorem dX8_isLetter_3 : decode cX8_isLetter 3 = .ok (.if_icmp .lt 13, 3) := by decide +kernel
theorem dX8_isLetter_6 : decode cX8_isLetter 6 = .ok (.iload_n 0, 1) := by decide +kernel
theorem dX8_isLetter_7 : decode cX8_isLetter 7 = .ok (.bipush 122, 2) := by decide +kernel
theorem dX8_isLetter_9 : decode cX8_isLetter 9 = .ok (.if_icmp .gt 7, 3) := by decide +kernel
theorem dX8_isLetter_12 : decode cX8_isLetter 12 = .ok (.iconst 1, 1) := by decide +kernel
theorem dX8_isLetter_13 : decode cX8_isLetter 13 = .ok (.goto 4, 3) := by decide +kernel
theorem dX8_isLetter_16 : decode cX8_isLetter 16 = .ok (.iconst 0, 1) := by decide +kernel
theorem dX8_isLetter_17 : decode cX8_isLetter 17 = .ok (.ireturn, 1) := by decide +kernel
theorem dX8_isDigit_0 : decode cX8_isDigit 0 = .ok (.iload_n 0, 1) := by decide +kernel
theorem dX8_isDigit_1 : decode cX8_isDigit 1 = .ok (.bipush 48, 2) := by decide +kernel
theorem dX8_isDigit_3 : decode cX8_isDigit 3 = .ok (.if_icmp .lt 13, 3) := by decide +kernel
theorem dX8_isDigit_6 : decode cX8_isDigit 6 = .ok (.iload_n 0, 1) := by decide +kernel
theorem dX8_isDigit_7 : decode cX8_isDigit 7 = .ok (.bipush 57, 2) := by decide +kernel
theorem dX8_isDigit_9 : decode cX8_isDigit 9 = .ok (.if_icmp .gt 7, 3) := by decide +kernel
theorem dX8_isDigit_12 : decode cX8_isDigit 12 = .ok (.iconst 1, 1) := by decide +kernel
theorem dX8_isDigit_13 : decode cX8_isDigit 13 = .ok (.goto 4, 3) := by decide +kernel
theorem dX8_isDigit_16 : decode cX8_isDigit 16 = .ok (.iconst 0, 1) := by decide +kernel
theorem dX8_isDigit_17 : decode cX8_isDigit 17 = .ok (.ireturn, 1) := by decide +kernel
theorem dX8_fails_0 : decode cX8_fails 0 = .ok (.aload_n 0, 1) := by decide +kernel
theorem dX8_fails_1 : decode cX8_fails 1 = .ok (.getfield 115, 3) := by decide +kernel
theorem dX8_fails_4 : decode cX8_fails 4 = .ok (.ifCond .le 4, 3) := by decide +kernel
theorem dX8_fails_7 : decode cX8_fails 7 = .ok (.return_, 1) := by decide +kernel
theorem dX8_fails_8 : decode cX8_fails 8 = .ok (.aload_n 0, 1) := by decide +kernel
theorem dX8_fails_9 : decode cX8_fails 9 = .ok (.iload_n 1, 1) := by decide +kernel
theorem dX8_fails_10 : decode cX8_fails 10 = .ok (.putfield 115, 3) := by decide +kernel
theorem dX8_fails_13 : decode cX8_fails 13 = .ok (.aload_n 0, 1) := by decide +kernel
theorem dX8_fails_14 : decode cX8_fails 14 = .ok (.iload_n 2, 1) := by decide +kernel
theorem dX8_fails_15 : decode cX8_fails 15 = .ok (.putfield 16, 3) := by decide +kernel
theorem dX8_fails_18 : decode cX8_fails 18 = .ok (.return_, 1) := by decide +kernel
theorem dX8_isGood_0 : decode cX8_isGood 0 = .ok (.aload_n 0, 1) := by decide +kernel
theorem dX8_isGood_1 : decode cX8_isGood 1 = .ok (.getfield 115, 3) := by decide +kernel
theorem dX8_isGood_4 : decode cX8_isGood 4 = .ok (.ifCond .ne 7, 3) := by decide +kernel
theorem dX8_isGood_7 : decode cX8_isGood 7 = .ok (.iconst 1, 1) := by decide +kernel
theorem dX8_isGood_8 : decode cX8_isGood 8 = .ok (.goto 4, 3) := by decide +kernel
theorem dX8_isGood_11 : decode cX8_isGood 11 = .ok (.iconst 0, 1) := by decide +kernel
theorem dX8_isGood_12 : decode cX8_isGood 12 = .ok (.ireturn, 1) := by decide +kernel
theorem dX8_next_0 : decode cX8_next 0 = .ok (.aload_n 0, 1) := by decide +kernel
theorem dX8_next_1 : decode cX8_next 1 = .ok (.aload_n 0, 1) := by decide +kernel
theorem dX8_next_2 : decode cX8_next 2 = .ok (.getfield 118, 3) := by decide +kernel
theorem dX8_next_5 : decode cX8_next 5 = .ok (.putfield 121, 3) := by decide +kernel
theorem dX8_next_8 : decode cX8_next 8 = .ok (.aload_n 0, 1) := by decide +kernel
theorem dX8_next_9 : decode cX8_next 9 = .ok (.getfield 121, 3) := by decide +kernel
theorem dX8_next_12 : decode cX8_next 12 = .ok (.aload_n 0, 1) := by decide +kernel
theorem dX8_next_13 : decode cX8_next 13 = .ok (.getfield 112, 3) := by decide +kernel
theorem dX8_next_16 : decode cX8_next 16 = .ok (.if_icmp .ge 29, 3) := by decide +kernel
theorem dX8_next_19 : decode cX8_next 19 = .ok (.aload_n 0, 1) := by decide +kernel
theorem dX8_next_20 : decode cX8_next 20 = .ok (.aload_n 0, 1) := by decide +kernel
theorem dX8_next_21 : decode cX8_next 21 = .ok (.getfield 121, 3) := by decide +kernel
theorem dX8_next_24 : decode cX8_next 24 = .ok (.invokevirtual 124, 3) := by decide +kernel
theorem dX8_next_27 : decode cX8_next 27 = .ok (.bipush 32, 2) := by decide +kernel
theorem dX8_next_29 : decode cX8_next 29 = .ok (.if_icmp .ne 16, 3) := by decide +kernel
theorem dX8_next_32 : decode cX8_next 32 = .ok (.aload_n 0, 1) := by decide +kernel
theorem dX8_next_33 : decode cX8_next 33 = .ok (.dup, 1) := by decide +kernel
theorem dX8_next_34 : decode cX8_next 34 = .ok (.getfield 121, 3) := by decide +kernel
theorem dX8_next_37 : decode cX8_next 37 = .ok (.iconst 1, 1) := by decide +kernel
theorem dX8_next_38 : decode cX8_next 38 = .ok (.iadd, 1) := by decide +kernel
theorem dX8_next_39 : decode cX8_next 39 = .ok (.putfield 121, 3) := by decide +kernel
theorem dX8_next_42 : decode cX8_next 42 = .ok (.goto (-34), 3) := by decide +kernel
theorem dX8_next_45 : decode cX8_next 45 = .ok (.aload_n 0, 1) := by decide +kernel
theorem dX8_next_46 : decode cX8_next 46 = .ok (.aload_n 0, 1) := by decide +kernel
theorem dX8_next_47 : decode cX8_next 47 = .ok (.getfield 121, 3) := by decide +kernel
theorem dX8_next_50 : decode cX8_next 50 = .ok (.invokevirtual 124, 3) := by decide +kernel
theorem dX8_next_53 : decode cX8_next 53 = .ok (.istore_n 1, 1) := by decide +kernel
theorem dX8_next_54 : decode cX8_next 54 = .ok (.aload_n 0, 1) := by decide +kernel
theorem dX8_next_55 : decode cX8_next 55 = .ok (.aload_n 0, 1) := by decide +kernel
theorem dX8_next_56 : decode cX8_next 56 = .ok (.getfield 121, 3) := by decide +kernel
theorem dX8_next_59 : decode cX8_next 59 = .ok (.iconst 1, 1) := by decide +kernel
theorem dX8_next_60 : decode cX8_next 60 = .ok (.iadd, 1) := by decide +kernel
theorem dX8_next_61 : decode cX8_next 61 = .ok (.putfield 118, 3) := by decide +kernel
theorem dX8_next_64 : decode cX8_next 64 = .ok (.aload_n 0, 1) := by decide +kernel
theorem dX8_next_65 : decode cX8_next 65 = .ok (.getfield 121, 3) := by decide +kernel
theorem dX8_next_68 : decode cX8_next 68 = .ok (.aload_n 0, 1) := by decide +kernel
theorem dX8_next_69 : decode cX8_next 69 = .ok (.getfield 112, 3) := by decide +kernel
theorem dX8_next_72 : decode cX8_next 72 = .ok (.if_icmp .lt 27, 3) := by decide +kernel
theorem dX8_next_75 : decode cX8_next 75 = .ok (.aload_n 0, 1) := by decide +kernel
theorem dX8_next_76 : decode cX8_next 76 = .ok (.iconst 0, 1) := by decide +kernel
theorem dX8_next_77 : decode cX8_next 77 = .ok (.putfield 128, 3) := by decide +kernel
theorem dX8_next_80 : decode cX8_next 80 = .ok (.aload_n 0, 1) := by decide +kernel
theorem dX8_next_81 : decode cX8_next 81 = .ok (.aload_n 0, 1) := by decide +kernel
theorem dX8_next_82 : decode cX8_next 82 = .ok (.getfield 112, 3) := by decide +kernel
theorem dX8_next_85 : decode cX8_next 85 = .ok (.putfield 121, 3) := by decide +kernel
theorem dX8_next_88 : decode cX8_next 88 = .ok (.aload_n 0, 1) := by decide +kernel
theorem dX8_next_89 : decode cX8_next 89 = .ok (.aload_n 0, 1) := by decide +kernel
theorem dX8_next_90 : decode cX8_next 90 = .ok (.getfield 112, 3) := by decide +kernel
theorem dX8_next_93 : decode cX8_next 93 = .ok (.putfield 118, 3) := by decide +kernel
theorem dX8_next_96 : decode cX8_next 96 = .ok (.goto 293, 3) := by decide +kernel
theorem dX8_next_99 : decode cX8_next 99 = .ok (.iload_n 1, 1) := by decide +kernel
theorem dX8_next_100 : decode cX8_next 100 = .ok (.bipush 114, 2) := by decide +kernel
theorem dX8_next_102 : decode cX8_next 102 = .ok (.if_icmp .ne 101, 3) := by decide +kernel
theorem dX8_next_105 : decode cX8_next 105 = .ok (.aload_n 0, 1) := by decide +kernel
theorem dX8_next_106 : decode cX8_next 106 = .ok (.aload_n 0, 1) := by decide +kernel
theorem dX8_next_107 : decode cX8_next 107 = .ok (.getfield 121, 3) := by decide +kernel
theorem dX8_next_110 : decode cX8_next 110 = .ok (.iconst 1, 1) := by decide +kernel
theorem dX8_next_111 : decode cX8_next 111 = .ok (.iadd, 1) := by decide +kernel
theorem dX8_next_112 : decode cX8_next 112 = .ok (.invokevirtual 124, 3) := by decide +kernel
theorem dX8_next_115 : decode cX8_next 115 = .ok (.invokestatic 131, 3) := by decide +kernel
theorem dX8_next_118 : decode cX8_next 118 = .ok (.ifCond .eq 85, 3) := by decide +kernel
theorem dX8_next_121 : decode cX8_next 121 = .ok (.aload_n 0, 1) := by decide +kernel
theorem dX8_next_122 : decode cX8_next 122 = .ok (.aload_n 0, 1) := by decide +kernel
theorem dX8_next_123 : decode cX8_next 123 = .ok (.getfield 121, 3) := by decide +kernel
theorem dX8_next_126 : decode cX8_next 126 = .ok (.iconst 1, 1) := by decide +kernel
theorem dX8_next_127 : decode cX8_next 127 = .ok (.iadd, 1) := by decide +kernel
theorem dX8_next_128 : decode cX8_next 128 = .ok (.invokevirtual 124, 3) := by decide +kernel
theorem dX8_next_131 : decode cX8_next 131 = .ok (.bipush 56, 2) := by decide +kernel
theorem dX8_next_133 : decode cX8_next 133 = .ok (.if_icmp .ge 70, 3) := by decide +kernel
theorem dX8_next_136 : decode cX8_next 136 = .ok (.aload_n 0, 1) := by decide +kernel
theorem dX8_next_137 : decode cX8_next 137 = .ok (.aload_n 0, 1) := by decide +kernel
theorem dX8_next_138 : decode cX8_next 138 = .ok (.getfield 121, 3) := by decide +kernel
theorem dX8_next_141 : decode cX8_next 141 = .ok (.iconst 2, 1) := by decide +kernel
theorem dX8_next_142 : decode cX8_next 142 = .ok (.iadd, 1) := by decide +kernel
theorem dX8_next_143 : decode cX8_next 143 = .ok (.invokevirtual 124, 3) := by decide +kernel
theorem dX8_next_146 : decode cX8_next 146 = .ok (.invokestatic 135, 3) := by decide +kernel
theorem dX8_next_149 : decode cX8_next 149 = .ok (.ifCond .ne 54, 3) := by decide +kernel
theorem dX8_next_152 : decode cX8_next 152 = .ok (.aload_n 0, 1) := by decide +kernel
theorem dX8_next_153 : decode cX8_next 153 = .ok (.aload_n 0, 1) := by decide +kernel
theorem dX8_next_154 : decode cX8_next 154 = .ok (.getfield 121, 3) := by decide +kernel
theorem dX8_next_157 : decode cX8_next 157 = .ok (.iconst 2, 1) := by decide +kernel
theorem dX8_next_158 : decode cX8_next 158 = .ok (.iadd, 1) := by decide +kernel
theorem dX8_next_159 : decode cX8_next 159 = .ok (.invokevirtual 124, 3) := by decide +kernel
theorem dX8_next_162 : decode cX8_next 162 = .ok (.invokestatic 131, 3) := by decide +kernel
theorem dX8_next_165 : decode cX8_next 165 = .ok (.ifCond .ne 38, 3) := by decide +kernel
theorem dX8_next_168 : decode cX8_next 168 = .ok (.aload_n 0, 1) := by decide +kernel
theorem dX8_next_169 : decode cX8_next 169 = .ok (.aload_n 0, 1) := by decide +kernel
theorem dX8_next_170 : decode cX8_next 170 = .ok (.aload_n 0, 1) := by decide +kernel
theorem dX8_next_171 : decode cX8_next 171 = .ok (.getfield 121, 3) := by decide +kernel
theorem dX8_next_174 : decode cX8_next 174 = .ok (.iconst 1, 1) := by decide +kernel
theorem dX8_next_175 : decode cX8_next 175 = .ok (.iadd, 1) := by decide +kernel
theorem dX8_next_176 : decode cX8_next 176 = .ok (.invokevirtual 124, 3) := by decide +kernel
theorem dX8_next_179 : decode cX8_next 179 = .ok (.bipush 48, 2) := by decide +kernel
theorem dX8_next_181 : decode cX8_next 181 = .ok (.isub, 1) := by decide +kernel
theorem dX8_next_182 : decode cX8_next 182 = .ok (.putfield 138, 3) := by decide +kernel
theorem dX8_next_185 : decode cX8_next 185 = .ok (.aload_n 0, 1) := by decide +kernel
theorem dX8_next_186 : decode cX8_next 186 = .ok (.aload_n 0, 1) := by decide +kernel
