theorem dX8_fault_23 : decode cX8_fault 23 = .ok (.iconst (-1), 1) := by decide +kernel
theorem dX8_fault_24 : decode cX8_fault 24 = .ok (.ireturn, 1) := by decide +kernel
theorem dX8_act_0 : decode cX8_act 0 = .ok (.iload_n 1, 1) := by decide +kernel
theorem dX8_act_1 : decode cX8_act 1 = .ok (.invokestatic 181, 3) := by decide +kernel
theorem dX8_act_4 : decode cX8_act 4 = .ok (.ifCond .eq 17, 3) := by decide +kernel
theorem dX8_act_7 : decode cX8_act 7 = .ok (.iload_n 2, 1) := by decide +kernel
theorem dX8_act_8 : decode cX8_act 8 = .ok (.ifCond .lt 13, 3) := by decide +kernel
theorem dX8_act_11 : decode cX8_act 11 = .ok (.iload_n 2, 1) := by decide +kernel
theorem dX8_act_12 : decode cX8_act 12 = .ok (.aload_n 0, 1) := by decide +kernel
theorem dX8_act_13 : decode cX8_act 13 = .ok (.getfield 33, 3) := by decide +kernel
theorem dX8_act_16 : decode cX8_act 16 = .ok (.iload_n 1, 1) := by decide +kernel
theorem dX8_act_17 : decode cX8_act 17 = .ok (.iaload, 1) := by decide +kernel
theorem dX8_act_18 : decode cX8_act 18 = .ok (.if_icmp .lt 15, 3) := by decide +kernel
theorem dX8_act_21 : decode cX8_act 21 = .ok (.iload_n 3, 1) := by decide +kernel
theorem dX8_act_22 : decode cX8_act 22 = .ok (.iconst 3, 1) := by decide +kernel
theorem dX8_act_23 : decode cX8_act 23 = .ok (.if_icmp .ne 8, 3) := by decide +kernel
theorem dX8_act_26 : decode cX8_act 26 = .ok (.ldc 224, 2) := by decide +kernel
theorem dX8_act_28 : decode cX8_act 28 = .ok (.goto 4, 3) := by decide +kernel
theorem dX8_act_31 : decode cX8_act 31 = .ok (.iconst (-1), 1) := by decide +kernel
theorem dX8_act_32 : decode cX8_act 32 = .ok (.ireturn, 1) := by decide +kernel
theorem dX8_act_33 : decode cX8_act 33 = .ok (.bipush 80, 2) := by decide +kernel
theorem dX8_act_35 : decode cX8_act 35 = .ok (.iload_n 1, 1) := by decide +kernel
theorem dX8_act_36 : decode cX8_act 36 = .ok (.imul, 1) := by decide +kernel
theorem dX8_act_37 : decode cX8_act 37 = .ok (.iload_n 2, 1) := by decide +kernel
theorem dX8_act_38 : decode cX8_act 38 = .ok (.iadd, 1) := by decide +kernel
theorem dX8_act_39 : decode cX8_act 39 = .ok (.istore 4, 2) := by decide +kernel
theorem dX8_act_41 : decode cX8_act 41 = .ok (.iload_n 3, 1) := by decide +kernel
theorem dX8_act_42 : decode cX8_act 42 = .ok (.tableswitch 62 0 3 #[30, 38, 46, 54], 30) := by decide +kernel
theorem dX8_act_72 : decode cX8_act 72 = .ok (.aload_n 0, 1) := by decide +kernel
theorem dX8_act_73 : decode cX8_act 73 = .ok (.getfield 20, 3) := by decide +kernel
theorem dX8_act_76 : decode cX8_act 76 = .ok (.iload 4, 2) := by decide +kernel
theorem dX8_act_78 : decode cX8_act 78 = .ok (.iaload, 1) := by decide +kernel
theorem dX8_act_79 : decode cX8_act 79 = .ok (.ireturn, 1) := by decide +kernel
theorem dX8_act_80 : decode cX8_act 80 = .ok (.aload_n 0, 1) := by decide +kernel
theorem dX8_act_81 : decode cX8_act 81 = .ok (.getfield 24, 3) := by decide +kernel
theorem dX8_act_84 : decode cX8_act 84 = .ok (.iload 4, 2) := by decide +kernel
theorem dX8_act_86 : decode cX8_act 86 = .ok (.iaload, 1) := by decide +kernel
theorem dX8_act_87 : decode cX8_act 87 = .ok (.ireturn, 1) := by decide +kernel
theorem dX8_act_88 : decode cX8_act 88 = .ok (.aload_n 0, 1) := by decide +kernel
theorem dX8_act_89 : decode cX8_act 89 = .ok (.getfield 27, 3) := by decide +kernel
theorem dX8_act_92 : decode cX8_act 92 = .ok (.iload 4, 2) := by decide +kernel
theorem dX8_act_94 : decode cX8_act 94 = .ok (.iaload, 1) := by decide +kernel
theorem dX8_act_95 : decode cX8_act 95 = .ok (.ireturn, 1) := by decide +kernel
theorem dX8_act_96 : decode cX8_act 96 = .ok (.aload_n 0, 1) := by decide +kernel
theorem dX8_act_97 : decode cX8_act 97 = .ok (.getfield 30, 3) := by decide +kernel
theorem dX8_act_100 : decode cX8_act 100 = .ok (.iload 4, 2) := by decide +kernel
theorem dX8_act_102 : decode cX8_act 102 = .ok (.iaload, 1) := by decide +kernel
theorem dX8_act_103 : decode cX8_act 103 = .ok (.ireturn, 1) := by decide +kernel
theorem dX8_act_104 : decode cX8_act 104 = .ok (.iconst (-1), 1) := by decide +kernel
theorem dX8_act_105 : decode cX8_act 105 = .ok (.ireturn, 1) := by decide +kernel
theorem dX8_input_0 : decode cX8_input 0 = .ok (.aload_n 0, 1) := by decide +kernel
theorem dX8_input_1 : decode cX8_input 1 = .ok (.getfield 184, 3) := by decide +kernel
theorem dX8_input_4 : decode cX8_input 4 = .ok (.bipush 24, 2) := by decide +kernel
theorem dX8_input_6 : decode cX8_input 6 = .ok (.if_icmp .gt 12, 3) := by decide +kernel
theorem dX8_input_9 : decode cX8_input 9 = .ok (.aload_n 0, 1) := by decide +kernel
theorem dX8_input_10 : decode cX8_input 10 = .ok (.getfield 225, 3) := by decide +kernel
theorem dX8_input_13 : decode cX8_input 13 = .ok (.bipush 30, 2) := by decide +kernel
theorem dX8_input_15 : decode cX8_input 15 = .ok (.if_icmp .ne 5, 3) := by decide +kernel
theorem dX8_input_18 : decode cX8_input 18 = .ok (.iconst (-1), 1) := by decide +kernel
theorem dX8_input_19 : decode cX8_input 19 = .ok (.ireturn, 1) := by decide +kernel
theorem dX8_input_20 : decode cX8_input 20 = .ok (.iconst 0, 1) := by decide +kernel
theorem dX8_input_21 : decode cX8_input 21 = .ok (.istore_n 1, 1) := by decide +kernel
theorem dX8_input_22 : decode cX8_input 22 = .ok (.iload_n 1, 1) := by decide +kernel
theorem dX8_input_23 : decode cX8_input 23 = .ok (.aload_n 0, 1) := by decide +kernel
theorem dX8_input_24 : decode cX8_input 24 = .ok (.getfield 184, 3) := by decide +kernel
theorem dX8_input_27 : decode cX8_input 27 = .ok (.if_icmp .ge 33, 3) := by decide +kernel
theorem dX8_input_30 : decode cX8_input 30 = .ok (.aload_n 0, 1) := by decide +kernel
theorem dX8_input_31 : decode cX8_input 31 = .ok (.getfield 49, 3) := by decide +kernel
theorem dX8_input_34 : decode cX8_input 34 = .ok (.bipush 24, 2) := by decide +kernel
theorem dX8_input_36 : decode cX8_input 36 = .ok (.aload_n 0, 1) := by decide +kernel
theorem dX8_input_37 : decode cX8_input 37 = .ok (.getfield 225, 3) := by decide +kernel
theorem dX8_input_40 : decode cX8_input 40 = .ok (.imul, 1) := by decide +kernel
theorem dX8_input_41 : decode cX8_input 41 = .ok (.iload_n 1, 1) := by decide +kernel
theorem dX8_input_42 : decode cX8_input 42 = .ok (.iadd, 1) := by decide +kernel
theorem dX8_input_43 : decode cX8_input 43 = .ok (.aload_n 0, 1) := by decide +kernel
theorem dX8_input_44 : decode cX8_input 44 = .ok (.getfield 7, 3) := by decide +kernel
theorem dX8_input_47 : decode cX8_input 47 = .ok (.iload_n 1, 1) := by decide +kernel
theorem dX8_input_48 : decode cX8_input 48 = .ok (.baload, 1) := by decide +kernel
theorem dX8_input_49 : decode cX8_input 49 = .ok (.sipush 255, 3) := by decide +kernel
theorem dX8_input_52 : decode cX8_input 52 = .ok (.iand, 1) := by decide +kernel
theorem dX8_input_53 : decode cX8_input 53 = .ok (.iastore, 1) := by decide +kernel
theorem dX8_input_54 : decode cX8_input 54 = .ok (.iinc 1 1, 3) := by decide +kernel
theorem dX8_input_57 : decode cX8_input 57 = .ok (.goto (-35), 3) := by decide +kernel
theorem dX8_input_60 : decode cX8_input 60 = .ok (.aload_n 0, 1) := by decide +kernel
theorem dX8_input_61 : decode cX8_input 61 = .ok (.getfield 52, 3) := by decide +kernel
theorem dX8_input_64 : decode cX8_input 64 = .ok (.aload_n 0, 1) := by decide +kernel
theorem dX8_input_65 : decode cX8_input 65 = .ok (.getfield 225, 3) := by decide +kernel
theorem dX8_input_68 : decode cX8_input 68 = .ok (.aload_n 0, 1) := by decide +kernel
theorem dX8_input_69 : decode cX8_input 69 = .ok (.getfield 184, 3) := by decide +kernel
theorem dX8_input_72 : decode cX8_input 72 = .ok (.iastore, 1) := by decide +kernel
theorem dX8_input_73 : decode cX8_input 73 = .ok (.aload_n 0, 1) := by decide +kernel
theorem dX8_input_74 : decode cX8_input 74 = .ok (.iconst 0, 1) := by decide +kernel
theorem dX8_input_75 : decode cX8_input 75 = .ok (.putfield 184, 3) := by decide +kernel
theorem dX8_input_78 : decode cX8_input 78 = .ok (.aload_n 0, 1) := by decide +kernel
theorem dX8_input_79 : decode cX8_input 79 = .ok (.dup, 1) := by decide +kernel
theorem dX8_input_80 : decode cX8_input 80 = .ok (.getfield 225, 3) := by decide +kernel
theorem dX8_input_83 : decode cX8_input 83 = .ok (.iconst 1, 1) := by decide +kernel
theorem dX8_input_84 : decode cX8_input 84 = .ok (.iadd, 1) := by decide +kernel
theorem dX8_input_85 : decode cX8_input 85 = .ok (.putfield 225, 3) := by decide +kernel
theorem dX8_input_88 : decode cX8_input 88 = .ok (.aload_n 0, 1) := by decide +kernel
theorem dX8_input_89 : decode cX8_input 89 = .ok (.getfield 225, 3) := by decide +kernel
theorem dX8_input_92 : decode cX8_input 92 = .ok (.iconst 1, 1) := by decide +kernel
theorem dX8_input_93 : decode cX8_input 93 = .ok (.isub, 1) := by decide +kernel
theorem dX8_input_94 : decode cX8_input 94 = .ok (.ireturn, 1) := by decide +kernel
theorem dX8_isInput_0 : decode cX8_isInput 0 = .ok (.iload_n 1, 1) := by decide +kernel
theorem dX8_isInput_1 : decode cX8_isInput 1 = .ok (.ifCond .lt 15, 3) := by decide +kernel
theorem dX8_isInput_4 : decode cX8_isInput 4 = .ok (.iload_n 1, 1) := by decide +kernel
theorem dX8_isInput_5 : decode cX8_isInput 5 = .ok (.aload_n 0, 1) := by decide +kernel
theorem dX8_isInput_6 : decode cX8_isInput 6 = .ok (.getfield 225, 3) := by decide +kernel
theorem dX8_isInput_9 : decode cX8_isInput 9 = .ok (.if_icmp .ge 7, 3) := by decide +kernel
theorem dX8_isInput_12 : decode cX8_isInput 12 = .ok (.iconst 1, 1) := by decide +kernel
theorem dX8_isInput_13 : decode cX8_isInput 13 = .ok (.goto 4, 3) := by decide +kernel
theorem dX8_isInput_16 : decode cX8_isInput 16 = .ok (.iconst 0, 1) := by decide +kernel
theorem dX8_isInput_17 : decode cX8_isInput 17 = .ok (.ireturn, 1) := by decide +kernel
theorem dX8_byteOf_0 : decode cX8_byteOf 0 = .ok (.aload_n 0, 1) := by decide +kernel
theorem dX8_byteOf_1 : decode cX8_byteOf 1 = .ok (.iload_n 1, 1) := by decide +kernel
theorem dX8_byteOf_2 : decode cX8_byteOf 2 = .ok (.invokevirtual 228, 3) := by decide +kernel
theorem dX8_byteOf_5 : decode cX8_byteOf 5 = .ok (.ifCond .eq 31, 3) := by decide +kernel
theorem dX8_byteOf_8 : decode cX8_byteOf 8 = .ok (.iload_n 2, 1) := by decide +kernel
theorem dX8_byteOf_9 : decode cX8_byteOf 9 = .ok (.ifCond .lt 27, 3) := by decide +kernel
theorem dX8_byteOf_12 : decode cX8_byteOf 12 = .ok (.iload_n 2, 1) := by decide +kernel
theorem dX8_byteOf_13 : decode cX8_byteOf 13 = .ok (.aload_n 0, 1) := by decide +kernel
theorem dX8_byteOf_14 : decode cX8_byteOf 14 = .ok (.getfield 52, 3) := by decide +kernel
theorem dX8_byteOf_17 : decode cX8_byteOf 17 = .ok (.iload_n 1, 1) := by decide +kernel
theorem dX8_byteOf_18 : decode cX8_byteOf 18 = .ok (.iaload, 1) := by decide +kernel
theorem dX8_byteOf_19 : decode cX8_byteOf 19 = .ok (.if_icmp .ge 17, 3) := by decide +kernel
theorem dX8_byteOf_22 : decode cX8_byteOf 22 = .ok (.aload_n 0, 1) := by decide +kernel
theorem dX8_byteOf_23 : decode cX8_byteOf 23 = .ok (.getfield 49, 3) := by decide +kernel
theorem dX8_byteOf_26 : decode cX8_byteOf 26 = .ok (.bipush 24, 2) := by decide +kernel
theorem dX8_byteOf_28 : decode cX8_byteOf 28 = .ok (.iload_n 1, 1) := by decide +kernel
theorem dX8_byteOf_29 : decode cX8_byteOf 29 = .ok (.imul, 1) := by decide +kernel
theorem dX8_byteOf_30 : decode cX8_byteOf 30 = .ok (.iload_n 2, 1) := by decide +kernel
theorem dX8_byteOf_31 : decode cX8_byteOf 31 = .ok (.iadd, 1) := by decide +kernel
theorem dX8_byteOf_32 : decode cX8_byteOf 32 = .ok (.iaload, 1) := by decide +kernel
theorem dX8_byteOf_33 : decode cX8_byteOf 33 = .ok (.goto 4, 3) := by decide +kernel
theorem dX8_byteOf_36 : decode cX8_byteOf 36 = .ok (.iconst (-1), 1) := by decide +kernel
theorem dX8_byteOf_37 : decode cX8_byteOf 37 = .ok (.ireturn, 1) := by decide +kernel
theorem dX8_drop_0 : decode cX8_drop 0 = .ok (.aload_n 0, 1) := by decide +kernel
theorem dX8_drop_1 : decode cX8_drop 1 = .ok (.getfield 225, 3) := by decide +kernel
theorem dX8_drop_4 : decode cX8_drop 4 = .ok (.ifCond .ne 5, 3) := by decide +kernel
theorem dX8_drop_7 : decode cX8_drop 7 = .ok (.iconst 0, 1) := by decide +kernel
theorem dX8_drop_8 : decode cX8_drop 8 = .ok (.ireturn, 1) := by decide +kernel
theorem dX8_drop_9 : decode cX8_drop 9 = .ok (.aload_n 0, 1) := by decide +kernel
theorem dX8_drop_10 : decode cX8_drop 10 = .ok (.dup, 1) := by decide +kernel
theorem dX8_drop_11 : decode cX8_drop 11 = .ok (.getfield 225, 3) := by decide +kernel
theorem dX8_drop_14 : decode cX8_drop 14 = .ok (.iconst 1, 1) := by decide +kernel
theorem dX8_drop_15 : decode cX8_drop 15 = .ok (.isub, 1) := by decide +kernel
theorem dX8_drop_16 : decode cX8_drop 16 = .ok (.putfield 225, 3) := by decide +kernel
theorem dX8_drop_19 : decode cX8_drop 19 = .ok (.iconst 1, 1) := by decide +kernel
theorem dX8_drop_20 : decode cX8_drop 20 = .ok (.ireturn, 1) := by decide +kernel
theorem dX8_use_0 : decode cX8_use 0 = .ok (.aload_n 0, 1) := by decide +kernel
theorem dX8_use_1 : decode cX8_use 1 = .ok (.aload_n 0, 1) := by decide +kernel
theorem dX8_use_2 : decode cX8_use 2 = .ok (.getfield 52, 3) := by decide +kernel
theorem dX8_use_5 : decode cX8_use 5 = .ok (.iload_n 1, 1) := by decide +kernel
theorem dX8_use_6 : decode cX8_use 6 = .ok (.iaload, 1) := by decide +kernel
theorem dX8_use_7 : decode cX8_use 7 = .ok (.putfield 231, 3) := by decide +kernel
theorem dX8_use_10 : decode cX8_use 10 = .ok (.iconst 0, 1) := by decide +kernel
theorem dX8_use_11 : decode cX8_use 11 = .ok (.istore_n 2, 1) := by decide +kernel
theorem dX8_use_12 : decode cX8_use 12 = .ok (.iload_n 2, 1) := by decide +kernel
theorem dX8_use_13 : decode cX8_use 13 = .ok (.aload_n 0, 1) := by decide +kernel
theorem dX8_use_14 : decode cX8_use 14 = .ok (.getfield 231, 3) := by decide +kernel
theorem dX8_use_17 : decode cX8_use 17 = .ok (.if_icmp .ge 26, 3) := by decide +kernel
theorem dX8_use_20 : decode cX8_use 20 = .ok (.aload_n 0, 1) := by decide +kernel
theorem dX8_use_21 : decode cX8_use 21 = .ok (.getfield 55, 3) := by decide +kernel
theorem dX8_use_24 : decode cX8_use 24 = .ok (.iload_n 2, 1) := by decide +kernel
theorem dX8_use_25 : decode cX8_use 25 = .ok (.aload_n 0, 1) := by decide +kernel
theorem dX8_use_26 : decode cX8_use 26 = .ok (.getfield 49, 3) := by decide +kernel
theorem dX8_use_29 : decode cX8_use 29 = .ok (.bipush 24, 2) := by decide +kernel
theorem dX8_use_31 : decode cX8_use 31 = .ok (.iload_n 1, 1) := by decide +kernel
theorem dX8_use_32 : decode cX8_use 32 = .ok (.imul, 1) := by decide +kernel
theorem dX8_use_33 : decode cX8_use 33 = .ok (.iload_n 2, 1) := by decide +kernel
theorem dX8_use_34 : decode cX8_use 34 = .ok (.iadd, 1) := by decide +kernel
theorem dX8_use_35 : decode cX8_use 35 = .ok (.iaload, 1) := by decide +kernel
theorem dX8_use_36 : decode cX8_use 36 = .ok (.iastore, 1) := by decide +kernel
theorem dX8_use_37 : decode cX8_use 37 = .ok (.iinc 2 1, 3) := by decide +kernel
theorem dX8_use_40 : decode cX8_use 40 = .ok (.goto (-28), 3) := by decide +kernel
theorem dX8_use_43 : decode cX8_use 43 = .ok (.return_, 1) := by decide +kernel
theorem dX8_runOn_0 : decode cX8_runOn 0 = .ok (.iconst 0, 1) := by decide +kernel
theorem dX8_runOn_1 : decode cX8_runOn 1 = .ok (.istore_n 2, 1) := by decide +kernel
theorem dX8_runOn_2 : decode cX8_runOn 2 = .ok (.iload_n 2, 1) := by decide +kernel
theorem dX8_runOn_3 : decode cX8_runOn 3 = .ok (.bipush 40, 2) := by decide +kernel
theorem dX8_runOn_5 : decode cX8_runOn 5 = .ok (.if_icmp .ge 30, 3) := by decide +kernel
theorem dX8_runOn_8 : decode cX8_runOn 8 = .ok (.aload_n 0, 1) := by decide +kernel
theorem dX8_runOn_9 : decode cX8_runOn 9 = .ok (.getfield 58, 3) := by decide +kernel
theorem dX8_runOn_12 : decode cX8_runOn 12 = .ok (.iload_n 2, 1) := by decide +kernel
theorem dX8_runOn_13 : decode cX8_runOn 13 = .ok (.iconst 0, 1) := by decide +kernel
theorem dX8_runOn_14 : decode cX8_runOn 14 = .ok (.iastore, 1) := by decide +kernel
theorem dX8_runOn_15 : decode cX8_runOn 15 = .ok (.aload_n 0, 1) := by decide +kernel
theorem dX8_runOn_16 : decode cX8_runOn 16 = .ok (.getfield 61, 3) := by decide +kernel
theorem dX8_runOn_19 : decode cX8_runOn 19 = .ok (.iload_n 2, 1) := by decide +kernel
theorem dX8_runOn_20 : decode cX8_runOn 20 = .ok (.iconst (-1), 1) := by decide +kernel
theorem dX8_runOn_21 : decode cX8_runOn 21 = .ok (.iastore, 1) := by decide +kernel
theorem dX8_runOn_22 : decode cX8_runOn 22 = .ok (.aload_n 0, 1) := by decide +kernel
theorem dX8_runOn_23 : decode cX8_runOn 23 = .ok (.getfield 64, 3) := by decide +kernel
theorem dX8_runOn_26 : decode cX8_runOn 26 = .ok (.iload_n 2, 1) := by decide +kernel
theorem dX8_runOn_27 : decode cX8_runOn 27 = .ok (.iconst 0, 1) := by decide +kernel
theorem dX8_runOn_28 : decode cX8_runOn 28 = .ok (.iastore, 1) := by decide +kernel
theorem dX8_runOn_29 : decode cX8_runOn 29 = .ok (.iinc 2 1, 3) := by decide +kernel
theorem dX8_runOn_32 : decode cX8_runOn 32 = .ok (.goto (-30), 3) := by decide +kernel
theorem dX8_runOn_35 : decode cX8_runOn 35 = .ok (.aload_n 0, 1) := by decide +kernel
theorem dX8_runOn_36 : decode cX8_runOn 36 = .ok (.iconst (-1), 1) := by decide +kernel
theorem dX8_runOn_37 : decode cX8_runOn 37 = .ok (.putfield 234, 3) := by decide +kernel
theorem dX8_runOn_40 : decode cX8_runOn 40 = .ok (.aload_n 0, 1) := by decide +kernel
theorem dX8_runOn_41 : decode cX8_runOn 41 = .ok (.iconst (-1), 1) := by decide +kernel
theorem dX8_runOn_42 : decode cX8_runOn 42 = .ok (.putfield 237, 3) := by decide +kernel
theorem dX8_runOn_45 : decode cX8_runOn 45 = .ok (.aload_n 0, 1) := by decide +kernel
theorem dX8_runOn_46 : decode cX8_runOn 46 = .ok (.iconst 0, 1) := by decide +kernel
theorem dX8_runOn_47 : decode cX8_runOn 47 = .ok (.putfield 240, 3) := by decide +kernel
theorem dX8_runOn_50 : decode cX8_runOn 50 = .ok (.aload_n 0, 1) := by decide +kernel
theorem dX8_runOn_51 : decode cX8_runOn 51 = .ok (.iconst (-1), 1) := by decide +kernel
theorem dX8_runOn_52 : decode cX8_runOn 52 = .ok (.putfield 243, 3) := by decide +kernel
theorem dX8_runOn_55 : decode cX8_runOn 55 = .ok (.aload_n 0, 1) := by decide +kernel
theorem dX8_runOn_56 : decode cX8_runOn 56 = .ok (.iconst 0, 1) := by decide +kernel
theorem dX8_runOn_57 : decode cX8_runOn 57 = .ok (.putfield 246, 3) := by decide +kernel
theorem dX8_runOn_60 : decode cX8_runOn 60 = .ok (.aload_n 0, 1) := by decide +kernel
theorem dX8_runOn_61 : decode cX8_runOn 61 = .ok (.iconst 0, 1) := by decide +kernel
theorem dX8_runOn_62 : decode cX8_runOn 62 = .ok (.putfield 249, 3) := by decide +kernel
theorem dX8_runOn_65 : decode cX8_runOn 65 = .ok (.aload_n 0, 1) := by decide +kernel
theorem dX8_runOn_66 : decode cX8_runOn 66 = .ok (.iconst 0, 1) := by decide +kernel
theorem dX8_runOn_67 : decode cX8_runOn 67 = .ok (.putfield 252, 3) := by decide +kernel
theorem dX8_runOn_70 : decode cX8_runOn 70 = .ok (.aload_n 0, 1) := by decide +kernel
theorem dX8_runOn_71 : decode cX8_runOn 71 = .ok (.iconst 0, 1) := by decide +kernel
theorem dX8_runOn_72 : decode cX8_runOn 72 = .ok (.putfield 255, 3) := by decide +kernel
theorem dX8_runOn_75 : decode cX8_runOn 75 = .ok (.aload_n 0, 1) := by decide +kernel
theorem dX8_runOn_76 : decode cX8_runOn 76 = .ok (.iconst 0, 1) := by decide +kernel
theorem dX8_runOn_77 : decode cX8_runOn 77 = .ok (.putfield 258, 3) := by decide +kernel
theorem dX8_runOn_80 : decode cX8_runOn 80 = .ok (.aload_n 0, 1) := by decide +kernel
theorem dX8_runOn_81 : decode cX8_runOn 81 = .ok (.getfield 234, 3) := by decide +kernel
theorem dX8_runOn_84 : decode cX8_runOn 84 = .ok (.ifCond .ge 46, 3) := by decide +kernel
theorem dX8_runOn_87 : decode cX8_runOn 87 = .ok (.aload_n 0, 1) := by decide +kernel
theorem dX8_runOn_88 : decode cX8_runOn 88 = .ok (.getfield 258, 3) := by decide +kernel
theorem dX8_runOn_91 : decode cX8_runOn 91 = .ok (.aload_n 0, 1) := by decide +kernel
theorem dX8_runOn_92 : decode cX8_runOn 92 = .ok (.getfield 33, 3) := by decide +kernel
theorem dX8_runOn_95 : decode cX8_runOn 95 = .ok (.iload_n 1, 1) := by decide +kernel
theorem dX8_runOn_96 : decode cX8_runOn 96 = .ok (.iaload, 1) := by decide +kernel
theorem dX8_runOn_97 : decode cX8_runOn 97 = .ok (.if_icmp .lt 11, 3) := by decide +kernel
theorem dX8_runOn_100 : decode cX8_runOn 100 = .ok (.aload_n 0, 1) := by decide +kernel
theorem dX8_runOn_101 : decode cX8_runOn 101 = .ok (.iconst 0, 1) := by decide +kernel
theorem dX8_runOn_102 : decode cX8_runOn 102 = .ok (.putfield 234, 3) := by decide +kernel
theorem dX8_runOn_105 : decode cX8_runOn 105 = .ok (.goto (-25), 3) := by decide +kernel
theorem dX8_runOn_108 : decode cX8_runOn 108 = .ok (.aload_n 0, 1) := by decide +kernel
theorem dX8_runOn_109 : decode cX8_runOn 109 = .ok (.bipush 80, 2) := by decide +kernel
theorem dX8_runOn_111 : decode cX8_runOn 111 = .ok (.iload_n 1, 1) := by decide +kernel
theorem dX8_runOn_112 : decode cX8_runOn 112 = .ok (.imul, 1) := by decide +kernel
theorem dX8_runOn_113 : decode cX8_runOn 113 = .ok (.aload_n 0, 1) := by decide +kernel
theorem dX8_runOn_114 : decode cX8_runOn 114 = .ok (.getfield 258, 3) := by decide +kernel
theorem dX8_runOn_117 : decode cX8_runOn 117 = .ok (.iadd, 1) := by decide +kernel
theorem dX8_runOn_118 : decode cX8_runOn 118 = .ok (.aload_n 0, 1) := by decide +kernel
theorem dX8_runOn_119 : decode cX8_runOn 119 = .ok (.getfield 33, 3) := by decide +kernel
theorem dX8_runOn_122 : decode cX8_runOn 122 = .ok (.iload_n 1, 1) := by decide +kernel
theorem dX8_runOn_123 : decode cX8_runOn 123 = .ok (.iaload, 1) := by decide +kernel
theorem dX8_runOn_124 : decode cX8_runOn 124 = .ok (.invokevirtual 261, 3) := by decide +kernel
theorem dX8_runOn_127 : decode cX8_runOn 127 = .ok (.goto (-47), 3) := by decide +kernel
theorem dX8_runOn_130 : decode cX8_runOn 130 = .ok (.return_, 1) := by decide +kernel
theorem dX8_falls_0 : decode cX8_falls 0 = .ok (.aload_n 0, 1) := by decide +kernel
theorem dX8_falls_1 : decode cX8_falls 1 = .ok (.iload_n 1, 1) := by decide +kernel
theorem dX8_falls_2 : decode cX8_falls 2 = .ok (.putfield 234, 3) := by decide +kernel
theorem dX8_falls_5 : decode cX8_falls 5 = .ok (.aload_n 0, 1) := by decide +kernel
theorem dX8_falls_6 : decode cX8_falls 6 = .ok (.aload_n 0, 1) := by decide +kernel
theorem dX8_falls_7 : decode cX8_falls 7 = .ok (.getfield 258, 3) := by decide +kernel
theorem dX8_falls_10 : decode cX8_falls 10 = .ok (.putfield 237, 3) := by decide +kernel
theorem dX8_falls_13 : decode cX8_falls 13 = .ok (.aload_n 0, 1) := by decide +kernel
theorem dX8_falls_14 : decode cX8_falls 14 = .ok (.aload_n 0, 1) := by decide +kernel
theorem dX8_falls_15 : decode cX8_falls 15 = .ok (.getfield 58, 3) := by decide +kernel
theorem dX8_falls_18 : decode cX8_falls 18 = .ok (.iload_n 2, 1) := by decide +kernel
theorem dX8_falls_19 : decode cX8_falls 19 = .ok (.iaload, 1) := by decide +kernel
theorem dX8_falls_20 : decode cX8_falls 20 = .ok (.putfield 240, 3) := by decide +kernel
theorem dX8_falls_23 : decode cX8_falls 23 = .ok (.aload_n 0, 1) := by decide +kernel
theorem dX8_falls_24 : decode cX8_falls 24 = .ok (.aload_n 0, 1) := by decide +kernel
theorem dX8_falls_25 : decode cX8_falls 25 = .ok (.getfield 61, 3) := by decide +kernel
theorem dX8_falls_28 : decode cX8_falls 28 = .ok (.iload_n 2, 1) := by decide +kernel
theorem dX8_falls_29 : decode cX8_falls 29 = .ok (.iaload, 1) := by decide +kernel
theorem dX8_falls_30 : decode cX8_falls 30 = .ok (.putfield 243, 3) := by decide +kernel
theorem dX8_falls_33 : decode cX8_falls 33 = .ok (.aload_n 0, 1) := by decide +kernel
theorem dX8_falls_34 : decode cX8_falls 34 = .ok (.aload_n 0, 1) := by decide +kernel
theorem dX8_falls_35 : decode cX8_falls 35 = .ok (.getfield 64, 3) := by decide +kernel
theorem dX8_falls_38 : decode cX8_falls 38 = .ok (.iload_n 2, 1) := by decide +kernel
theorem dX8_falls_39 : decode cX8_falls 39 = .ok (.iaload, 1) := by decide +kernel
theorem dX8_falls_40 : decode cX8_falls 40 = .ok (.putfield 246, 3) := by decide +kernel
theorem dX8_falls_43 : decode cX8_falls 43 = .ok (.return_, 1) := by decide +kernel
theorem dX8_isPlace_0 : decode cX8_isPlace 0 = .ok (.iload_n 0, 1) := by decide +kernel
theorem dX8_isPlace_1 : decode cX8_isPlace 1 = .ok (.ifCond .lt 13, 3) := by decide +kernel
theorem dX8_isPlace_4 : decode cX8_isPlace 4 = .ok (.iload_n 0, 1) := by decide +kernel
theorem dX8_isPlace_5 : decode cX8_isPlace 5 = .ok (.bipush 32, 2) := by decide +kernel
theorem dX8_isPlace_7 : decode cX8_isPlace 7 = .ok (.if_icmp .ge 7, 3) := by decide +kernel
theorem dX8_isPlace_10 : decode cX8_isPlace 10 = .ok (.iconst 1, 1) := by decide +kernel
theorem dX8_isPlace_11 : decode cX8_isPlace 11 = .ok (.goto 4, 3) := by decide +kernel
theorem dX8_isPlace_14 : decode cX8_isPlace 14 = .ok (.iconst 0, 1) := by decide +kernel
theorem dX8_isPlace_15 : decode cX8_isPlace 15 = .ok (.ireturn, 1) := by decide +kernel
theorem dX8_step_0 : decode cX8_step 0 = .ok (.aload_n 0, 1) := by decide +kernel
theorem dX8_step_1 : decode cX8_step 1 = .ok (.getfield 20, 3) := by decide +kernel
theorem dX8_step_4 : decode cX8_step 4 = .ok (.iload_n 1, 1) := by decide +kernel
theorem dX8_step_5 : decode cX8_step 5 = .ok (.iaload, 1) := by decide +kernel
theorem dX8_step_6 : decode cX8_step 6 = .ok (.istore_n 3, 1) := by decide +kernel
theorem dX8_step_7 : decode cX8_step 7 = .ok (.aload_n 0, 1) := by decide +kernel
theorem dX8_step_8 : decode cX8_step 8 = .ok (.getfield 24, 3) := by decide +kernel
theorem dX8_step_11 : decode cX8_step 11 = .ok (.iload_n 1, 1) := by decide +kernel
theorem dX8_step_12 : decode cX8_step 12 = .ok (.iaload, 1) := by decide +kernel
theorem dX8_step_13 : decode cX8_step 13 = .ok (.istore 4, 2) := by decide +kernel
theorem dX8_step_15 : decode cX8_step 15 = .ok (.aload_n 0, 1) := by decide +kernel
theorem dX8_step_16 : decode cX8_step 16 = .ok (.getfield 27, 3) := by decide +kernel
theorem dX8_step_19 : decode cX8_step 19 = .ok (.iload_n 1, 1) := by decide +kernel
theorem dX8_step_20 : decode cX8_step 20 = .ok (.iaload, 1) := by decide +kernel
theorem dX8_step_21 : decode cX8_step 21 = .ok (.istore 5, 2) := by decide +kernel
theorem dX8_step_23 : decode cX8_step 23 = .ok (.aload_n 0, 1) := by decide +kernel
theorem dX8_step_24 : decode cX8_step 24 = .ok (.getfield 249, 3) := by decide +kernel
theorem dX8_step_27 : decode cX8_step 27 = .ok (.sipush 1000, 3) := by decide +kernel
theorem dX8_step_30 : decode cX8_step 30 = .ok (.if_icmp .ne 11, 3) := by decide +kernel
theorem dX8_step_33 : decode cX8_step 33 = .ok (.aload_n 0, 1) := by decide +kernel
theorem dX8_step_34 : decode cX8_step 34 = .ok (.iconst 4, 1) := by decide +kernel
theorem dX8_step_35 : decode cX8_step 35 = .ok (.putfield 234, 3) := by decide +kernel
theorem dX8_step_38 : decode cX8_step 38 = .ok (.goto 95, 3) := by decide +kernel
theorem dX8_step_41 : decode cX8_step 41 = .ok (.iload_n 3, 1) := by decide +kernel
theorem dX8_step_42 : decode cX8_step 42 = .ok (.bipush 6, 2) := by decide +kernel
theorem dX8_step_44 : decode cX8_step 44 = .ok (.if_icmp .ne 26, 3) := by decide +kernel
theorem dX8_step_47 : decode cX8_step 47 = .ok (.aload_n 0, 1) := by decide +kernel
theorem dX8_step_48 : decode cX8_step 48 = .ok (.getfield 58, 3) := by decide +kernel
theorem dX8_step_51 : decode cX8_step 51 = .ok (.iload 5, 2) := by decide +kernel
theorem dX8_step_53 : decode cX8_step 53 = .ok (.iaload, 1) := by decide +kernel
theorem dX8_step_54 : decode cX8_step 54 = .ok (.invokestatic 264, 3) := by decide +kernel
theorem dX8_step_57 : decode cX8_step 57 = .ok (.ifCond .ne 13, 3) := by decide +kernel
theorem dX8_step_60 : decode cX8_step 60 = .ok (.aload_n 0, 1) := by decide +kernel
theorem dX8_step_61 : decode cX8_step 61 = .ok (.iconst 1, 1) := by decide +kernel
theorem dX8_step_62 : decode cX8_step 62 = .ok (.iload 5, 2) := by decide +kernel
theorem dX8_step_64 : decode cX8_step 64 = .ok (.invokevirtual 267, 3) := by decide +kernel
theorem dX8_step_67 : decode cX8_step 67 = .ok (.goto 66, 3) := by decide +kernel
theorem dX8_step_70 : decode cX8_step 70 = .ok (.iload_n 3, 1) := by decide +kernel
theorem dX8_step_71 : decode cX8_step 71 = .ok (.bipush 7, 2) := by decide +kernel
theorem dX8_step_73 : decode cX8_step 73 = .ok (.if_icmp .ne 26, 3) := by decide +kernel
theorem dX8_step_76 : decode cX8_step 76 = .ok (.aload_n 0, 1) := by decide +kernel
theorem dX8_step_77 : decode cX8_step 77 = .ok (.getfield 58, 3) := by decide +kernel
theorem dX8_step_80 : decode cX8_step 80 = .ok (.iload 4, 2) := by decide +kernel
theorem dX8_step_82 : decode cX8_step 82 = .ok (.iaload, 1) := by decide +kernel
theorem dX8_step_83 : decode cX8_step 83 = .ok (.invokestatic 264, 3) := by decide +kernel
theorem dX8_step_86 : decode cX8_step 86 = .ok (.ifCond .ne 13, 3) := by decide +kernel
theorem dX8_step_89 : decode cX8_step 89 = .ok (.aload_n 0, 1) := by decide +kernel
theorem dX8_step_90 : decode cX8_step 90 = .ok (.iconst 2, 1) := by decide +kernel
theorem dX8_step_91 : decode cX8_step 91 = .ok (.iload 4, 2) := by decide +kernel
theorem dX8_step_93 : decode cX8_step 93 = .ok (.invokevirtual 267, 3) := by decide +kernel
theorem dX8_step_96 : decode cX8_step 96 = .ok (.goto 37, 3) := by decide +kernel
theorem dX8_step_99 : decode cX8_step 99 = .ok (.iload_n 3, 1) := by decide +kernel
theorem dX8_step_100 : decode cX8_step 100 = .ok (.bipush 11, 2) := by decide +kernel
theorem dX8_step_102 : decode cX8_step 102 = .ok (.if_icmp .ne 31, 3) := by decide +kernel
theorem dX8_step_105 : decode cX8_step 105 = .ok (.aload_n 0, 1) := by decide +kernel
theorem dX8_step_106 : decode cX8_step 106 = .ok (.getfield 58, 3) := by decide +kernel
theorem dX8_step_109 : decode cX8_step 109 = .ok (.iload 4, 2) := by decide +kernel
theorem dX8_step_111 : decode cX8_step 111 = .ok (.iaload, 1) := by decide +kernel
theorem dX8_step_112 : decode cX8_step 112 = .ok (.ifCond .lt 14, 3) := by decide +kernel
theorem dX8_step_115 : decode cX8_step 115 = .ok (.aload_n 0, 1) := by decide +kernel
theorem dX8_step_116 : decode cX8_step 116 = .ok (.getfield 58, 3) := by decide +kernel
theorem dX8_step_119 : decode cX8_step 119 = .ok (.iload 4, 2) := by decide +kernel
theorem dX8_step_121 : decode cX8_step 121 = .ok (.iaload, 1) := by decide +kernel
theorem dX8_step_122 : decode cX8_step 122 = .ok (.iload_n 2, 1) := by decide +kernel
theorem dX8_step_123 : decode cX8_step 123 = .ok (.if_icmp .lt 10, 3) := by decide +kernel
theorem dX8_step_126 : decode cX8_step 126 = .ok (.aload_n 0, 1) := by decide +kernel
theorem dX8_step_127 : decode cX8_step 127 = .ok (.iconst 3, 1) := by decide +kernel
theorem dX8_step_128 : decode cX8_step 128 = .ok (.iload 4, 2) := by decide +kernel
theorem dX8_step_130 : decode cX8_step 130 = .ok (.invokevirtual 267, 3) := by decide +kernel
theorem dX8_step_133 : decode cX8_step 133 = .ok (.aload_n 0, 1) := by decide +kernel
theorem dX8_step_134 : decode cX8_step 134 = .ok (.getfield 234, 3) := by decide +kernel
theorem dX8_step_137 : decode cX8_step 137 = .ok (.ifCond .lt 4, 3) := by decide +kernel
theorem dX8_step_140 : decode cX8_step 140 = .ok (.return_, 1) := by decide +kernel
theorem dX8_step_141 : decode cX8_step 141 = .ok (.aload_n 0, 1) := by decide +kernel
theorem dX8_step_142 : decode cX8_step 142 = .ok (.dup, 1) := by decide +kernel
theorem dX8_step_143 : decode cX8_step 143 = .ok (.getfield 249, 3) := by decide +kernel
theorem dX8_step_146 : decode cX8_step 146 = .ok (.iconst 1, 1) := by decide +kernel
theorem dX8_step_147 : decode cX8_step 147 = .ok (.iadd, 1) := by decide +kernel
theorem dX8_step_148 : decode cX8_step 148 = .ok (.putfield 249, 3) := by decide +kernel
theorem dX8_step_151 : decode cX8_step 151 = .ok (.aload_n 0, 1) := by decide +kernel
theorem dX8_step_152 : decode cX8_step 152 = .ok (.getfield 258, 3) := by decide +kernel
theorem dX8_step_155 : decode cX8_step 155 = .ok (.istore 6, 2) := by decide +kernel
theorem dX8_step_157 : decode cX8_step 157 = .ok (.aload_n 0, 1) := by decide +kernel
theorem dX8_step_158 : decode cX8_step 158 = .ok (.dup, 1) := by decide +kernel
theorem dX8_step_159 : decode cX8_step 159 = .ok (.getfield 258, 3) := by decide +kernel
theorem dX8_step_162 : decode cX8_step 162 = .ok (.iconst 1, 1) := by decide +kernel
theorem dX8_step_163 : decode cX8_step 163 = .ok (.iadd, 1) := by decide +kernel
theorem dX8_step_164 : decode cX8_step 164 = .ok (.putfield 258, 3) := by decide +kernel
theorem dX8_step_167 : decode cX8_step 167 = .ok (.iload_n 3, 1) := by decide +kernel
theorem dX8_step_168 : decode cX8_step 168 = .ok (.iconst 5, 1) := by decide +kernel
theorem dX8_step_169 : decode cX8_step 169 = .ok (.if_icmp .gt 23, 3) := by decide +kernel
theorem dX8_step_172 : decode cX8_step 172 = .ok (.aload_n 0, 1) := by decide +kernel
theorem dX8_step_173 : decode cX8_step 173 = .ok (.iload_n 3, 1) := by decide +kernel
theorem dX8_step_174 : decode cX8_step 174 = .ok (.iload 4, 2) := by decide +kernel
theorem dX8_step_176 : decode cX8_step 176 = .ok (.iload 5, 2) := by decide +kernel
theorem dX8_step_178 : decode cX8_step 178 = .ok (.aload_n 0, 1) := by decide +kernel
theorem dX8_step_179 : decode cX8_step 179 = .ok (.getfield 30, 3) := by decide +kernel
theorem dX8_step_182 : decode cX8_step 182 = .ok (.iload_n 1, 1) := by decide +kernel
theorem dX8_step_183 : decode cX8_step 183 = .ok (.iaload, 1) := by decide +kernel
theorem dX8_step_184 : decode cX8_step 184 = .ok (.iload 6, 2) := by decide +kernel
theorem dX8_step_186 : decode cX8_step 186 = .ok (.invokevirtual 270, 3) := by decide +kernel
theorem dX8_step_189 : decode cX8_step 189 = .ok (.goto 36, 3) := by decide +kernel
theorem dX8_step_192 : decode cX8_step 192 = .ok (.iload_n 3, 1) := by decide +kernel
theorem dX8_step_193 : decode cX8_step 193 = .ok (.bipush 7, 2) := by decide +kernel
theorem dX8_step_195 : decode cX8_step 195 = .ok (.if_icmp .gt 15, 3) := by decide +kernel
theorem dX8_step_198 : decode cX8_step 198 = .ok (.aload_n 0, 1) := by decide +kernel
theorem dX8_step_199 : decode cX8_step 199 = .ok (.iload_n 3, 1) := by decide +kernel
theorem dX8_step_200 : decode cX8_step 200 = .ok (.iload 4, 2) := by decide +kernel
theorem dX8_step_202 : decode cX8_step 202 = .ok (.iload 5, 2) := by decide +kernel
theorem dX8_step_204 : decode cX8_step 204 = .ok (.invokevirtual 274, 3) := by decide +kernel
theorem dX8_step_207 : decode cX8_step 207 = .ok (.goto 18, 3) := by decide +kernel
theorem dX8_step_210 : decode cX8_step 210 = .ok (.aload_n 0, 1) := by decide +kernel
theorem dX8_step_211 : decode cX8_step 211 = .ok (.iload_n 3, 1) := by decide +kernel
theorem dX8_step_212 : decode cX8_step 212 = .ok (.iload 4, 2) := by decide +kernel
theorem dX8_step_214 : decode cX8_step 214 = .ok (.iload 5, 2) := by decide +kernel
theorem dX8_step_216 : decode cX8_step 216 = .ok (.aload_n 0, 1) := by decide +kernel
theorem dX8_step_217 : decode cX8_step 217 = .ok (.getfield 30, 3) := by decide +kernel
theorem dX8_step_220 : decode cX8_step 220 = .ok (.iload_n 1, 1) := by decide +kernel
theorem dX8_step_221 : decode cX8_step 221 = .ok (.iaload, 1) := by decide +kernel
theorem dX8_step_222 : decode cX8_step 222 = .ok (.invokevirtual 278, 3) := by decide +kernel
theorem dX8_step_225 : decode cX8_step 225 = .ok (.return_, 1) := by decide +kernel
theorem dX8_makes_0 : decode cX8_makes 0 = .ok (.iload_n 1, 1) := by decide +kernel
theorem dX8_makes_1 : decode cX8_makes 1 = .ok (.ifCond .ne 88, 3) := by decide +kernel
theorem dX8_makes_4 : decode cX8_makes 4 = .ok (.aload_n 0, 1) := by decide +kernel
theorem dX8_makes_5 : decode cX8_makes 5 = .ok (.getfield 255, 3) := by decide +kernel
theorem dX8_makes_8 : decode cX8_makes 8 = .ok (.aload_n 0, 1) := by decide +kernel
theorem dX8_makes_9 : decode cX8_makes 9 = .ok (.getfield 231, 3) := by decide +kernel
theorem dX8_makes_12 : decode cX8_makes 12 = .ok (.if_icmp .ge 7, 3) := by decide +kernel
theorem dX8_makes_15 : decode cX8_makes 15 = .ok (.iconst 1, 1) := by decide +kernel
theorem dX8_makes_16 : decode cX8_makes 16 = .ok (.goto 4, 3) := by decide +kernel
theorem dX8_makes_19 : decode cX8_makes 19 = .ok (.iconst 0, 1) := by decide +kernel
theorem dX8_makes_20 : decode cX8_makes 20 = .ok (.istore 6, 2) := by decide +kernel
theorem dX8_makes_22 : decode cX8_makes 22 = .ok (.aload_n 0, 1) := by decide +kernel
theorem dX8_makes_23 : decode cX8_makes 23 = .ok (.getfield 58, 3) := by decide +kernel
theorem dX8_makes_26 : decode cX8_makes 26 = .ok (.iload_n 2, 1) := by decide +kernel
theorem dX8_makes_27 : decode cX8_makes 27 = .ok (.iload 6, 2) := by decide +kernel
theorem dX8_makes_29 : decode cX8_makes 29 = .ok (.ifCond .eq 15, 3) := by decide +kernel
theorem dX8_makes_32 : decode cX8_makes 32 = .ok (.aload_n 0, 1) := by decide +kernel
theorem dX8_makes_33 : decode cX8_makes 33 = .ok (.getfield 55, 3) := by decide +kernel
theorem dX8_makes_36 : decode cX8_makes 36 = .ok (.aload_n 0, 1) := by decide +kernel
theorem dX8_makes_37 : decode cX8_makes 37 = .ok (.getfield 255, 3) := by decide +kernel
theorem dX8_makes_40 : decode cX8_makes 40 = .ok (.iaload, 1) := by decide +kernel
theorem dX8_makes_41 : decode cX8_makes 41 = .ok (.goto 4, 3) := by decide +kernel
theorem dX8_makes_44 : decode cX8_makes 44 = .ok (.iconst (-1), 1) := by decide +kernel
theorem dX8_makes_45 : decode cX8_makes 45 = .ok (.iastore, 1) := by decide +kernel
theorem dX8_makes_46 : decode cX8_makes 46 = .ok (.aload_n 0, 1) := by decide +kernel
theorem dX8_makes_47 : decode cX8_makes 47 = .ok (.getfield 64, 3) := by decide +kernel
theorem dX8_makes_50 : decode cX8_makes 50 = .ok (.iload_n 2, 1) := by decide +kernel
theorem dX8_makes_51 : decode cX8_makes 51 = .ok (.iload 6, 2) := by decide +kernel
theorem dX8_makes_53 : decode cX8_makes 53 = .ok (.ifCond .eq 12, 3) := by decide +kernel
theorem dX8_makes_56 : decode cX8_makes 56 = .ok (.iconst 1, 1) := by decide +kernel
theorem dX8_makes_57 : decode cX8_makes 57 = .ok (.aload_n 0, 1) := by decide +kernel
theorem dX8_makes_58 : decode cX8_makes 58 = .ok (.getfield 255, 3) := by decide +kernel
theorem dX8_makes_61 : decode cX8_makes 61 = .ok (.ishl, 1) := by decide +kernel
theorem dX8_makes_62 : decode cX8_makes 62 = .ok (.goto 4, 3) := by decide +kernel
theorem dX8_makes_65 : decode cX8_makes 65 = .ok (.iconst 0, 1) := by decide +kernel
theorem dX8_makes_66 : decode cX8_makes 66 = .ok (.iastore, 1) := by decide +kernel
theorem dX8_makes_67 : decode cX8_makes 67 = .ok (.aload_n 0, 1) := by decide +kernel
theorem dX8_makes_68 : decode cX8_makes 68 = .ok (.dup, 1) := by decide +kernel
theorem dX8_makes_69 : decode cX8_makes 69 = .ok (.getfield 255, 3) := by decide +kernel
theorem dX8_makes_72 : decode cX8_makes 72 = .ok (.iload 6, 2) := by decide +kernel
theorem dX8_makes_74 : decode cX8_makes 74 = .ok (.ifCond .eq 7, 3) := by decide +kernel
theorem dX8_makes_77 : decode cX8_makes 77 = .ok (.iconst 1, 1) := by decide +kernel
theorem dX8_makes_78 : decode cX8_makes 78 = .ok (.goto 4, 3) := by decide +kernel
theorem dX8_makes_81 : decode cX8_makes 81 = .ok (.iconst 0, 1) := by decide +kernel
theorem dX8_makes_82 : decode cX8_makes 82 = .ok (.iadd, 1) := by decide +kernel
theorem dX8_makes_83 : decode cX8_makes 83 = .ok (.putfield 255, 3) := by decide +kernel
theorem dX8_makes_86 : decode cX8_makes 86 = .ok (.goto 146, 3) := by decide +kernel
theorem dX8_makes_89 : decode cX8_makes 89 = .ok (.iload_n 1, 1) := by decide +kernel
theorem dX8_makes_90 : decode cX8_makes 90 = .ok (.iconst 1, 1) := by decide +kernel
theorem dX8_makes_91 : decode cX8_makes 91 = .ok (.if_icmp .ne 21, 3) := by decide +kernel
theorem dX8_makes_94 : decode cX8_makes 94 = .ok (.aload_n 0, 1) := by decide +kernel
theorem dX8_makes_95 : decode cX8_makes 95 = .ok (.getfield 58, 3) := by decide +kernel
theorem dX8_makes_98 : decode cX8_makes 98 = .ok (.iload_n 2, 1) := by decide +kernel
theorem dX8_makes_99 : decode cX8_makes 99 = .ok (.iload 4, 2) := by decide +kernel
theorem dX8_makes_101 : decode cX8_makes 101 = .ok (.iastore, 1) := by decide +kernel
theorem dX8_makes_102 : decode cX8_makes 102 = .ok (.aload_n 0, 1) := by decide +kernel
theorem dX8_makes_103 : decode cX8_makes 103 = .ok (.getfield 64, 3) := by decide +kernel
theorem dX8_makes_106 : decode cX8_makes 106 = .ok (.iload_n 2, 1) := by decide +kernel
theorem dX8_makes_107 : decode cX8_makes 107 = .ok (.iconst 0, 1) := by decide +kernel
theorem dX8_makes_108 : decode cX8_makes 108 = .ok (.iastore, 1) := by decide +kernel
theorem dX8_makes_109 : decode cX8_makes 109 = .ok (.goto 123, 3) := by decide +kernel
theorem dX8_makes_112 : decode cX8_makes 112 = .ok (.iload_n 1, 1) := by decide +kernel
theorem dX8_makes_113 : decode cX8_makes 113 = .ok (.iconst 2, 1) := by decide +kernel
theorem dX8_makes_114 : decode cX8_makes 114 = .ok (.if_icmp .ne 42, 3) := by decide +kernel
theorem dX8_makes_117 : decode cX8_makes 117 = .ok (.aload_n 0, 1) := by decide +kernel
theorem dX8_makes_118 : decode cX8_makes 118 = .ok (.getfield 58, 3) := by decide +kernel
theorem dX8_makes_121 : decode cX8_makes 121 = .ok (.iload_n 2, 1) := by decide +kernel
theorem dX8_makes_122 : decode cX8_makes 122 = .ok (.aload_n 0, 1) := by decide +kernel
theorem dX8_makes_123 : decode cX8_makes 123 = .ok (.getfield 58, 3) := by decide +kernel
theorem dX8_makes_126 : decode cX8_makes 126 = .ok (.iload_n 3, 1) := by decide +kernel
theorem dX8_makes_127 : decode cX8_makes 127 = .ok (.iaload, 1) := by decide +kernel
theorem dX8_makes_128 : decode cX8_makes 128 = .ok (.iastore, 1) := by decide +kernel
theorem dX8_makes_129 : decode cX8_makes 129 = .ok (.aload_n 0, 1) := by decide +kernel
theorem dX8_makes_130 : decode cX8_makes 130 = .ok (.getfield 64, 3) := by decide +kernel
theorem dX8_makes_133 : decode cX8_makes 133 = .ok (.iload_n 2, 1) := by decide +kernel
theorem dX8_makes_134 : decode cX8_makes 134 = .ok (.aload_n 0, 1) := by decide +kernel
theorem dX8_makes_135 : decode cX8_makes 135 = .ok (.getfield 64, 3) := by decide +kernel
theorem dX8_makes_138 : decode cX8_makes 138 = .ok (.iload_n 3, 1) := by decide +kernel
theorem dX8_makes_139 : decode cX8_makes 139 = .ok (.iaload, 1) := by decide +kernel
theorem dX8_makes_140 : decode cX8_makes 140 = .ok (.iastore, 1) := by decide +kernel
theorem dX8_makes_141 : decode cX8_makes 141 = .ok (.aload_n 0, 1) := by decide +kernel
theorem dX8_makes_142 : decode cX8_makes 142 = .ok (.getfield 61, 3) := by decide +kernel
theorem dX8_makes_145 : decode cX8_makes 145 = .ok (.iload_n 2, 1) := by decide +kernel
theorem dX8_makes_146 : decode cX8_makes 146 = .ok (.aload_n 0, 1) := by decide +kernel
theorem dX8_makes_147 : decode cX8_makes 147 = .ok (.getfield 61, 3) := by decide +kernel
theorem dX8_makes_150 : decode cX8_makes 150 = .ok (.iload_n 3, 1) := by decide +kernel
theorem dX8_makes_151 : decode cX8_makes 151 = .ok (.iaload, 1) := by decide +kernel
theorem dX8_makes_152 : decode cX8_makes 152 = .ok (.iastore, 1) := by decide +kernel
theorem dX8_makes_153 : decode cX8_makes 153 = .ok (.goto 79, 3) := by decide +kernel
theorem dX8_makes_156 : decode cX8_makes 156 = .ok (.aload_n 0, 1) := by decide +kernel
theorem dX8_makes_157 : decode cX8_makes 157 = .ok (.getfield 58, 3) := by decide +kernel
theorem dX8_makes_160 : decode cX8_makes 160 = .ok (.iload_n 2, 1) := by decide +kernel
theorem dX8_makes_161 : decode cX8_makes 161 = .ok (.iload_n 1, 1) := by decide +kernel
theorem dX8_makes_162 : decode cX8_makes 162 = .ok (.iconst 3, 1) := by decide +kernel
theorem dX8_makes_163 : decode cX8_makes 163 = .ok (.if_icmp .ne 19, 3) := by decide +kernel
theorem dX8_makes_166 : decode cX8_makes 166 = .ok (.aload_n 0, 1) := by decide +kernel
theorem dX8_makes_167 : decode cX8_makes 167 = .ok (.getfield 58, 3) := by decide +kernel
theorem dX8_makes_170 : decode cX8_makes 170 = .ok (.iload_n 2, 1) := by decide +kernel
theorem dX8_makes_171 : decode cX8_makes 171 = .ok (.iaload, 1) := by decide +kernel
theorem dX8_makes_172 : decode cX8_makes 172 = .ok (.aload_n 0, 1) := by decide +kernel
theorem dX8_makes_173 : decode cX8_makes 173 = .ok (.getfield 58, 3) := by decide +kernel
theorem dX8_makes_176 : decode cX8_makes 176 = .ok (.iload_n 3, 1) := by decide +kernel
theorem dX8_makes_177 : decode cX8_makes 177 = .ok (.iaload, 1) := by decide +kernel
theorem dX8_makes_178 : decode cX8_makes 178 = .ok (.iadd, 1) := by decide +kernel
theorem dX8_makes_179 : decode cX8_makes 179 = .ok (.goto 37, 3) := by decide +kernel
theorem dX8_makes_182 : decode cX8_makes 182 = .ok (.iload_n 1, 1) := by decide +kernel
theorem dX8_makes_183 : decode cX8_makes 183 = .ok (.iconst 4, 1) := by decide +kernel
theorem dX8_makes_184 : decode cX8_makes 184 = .ok (.if_icmp .ne 19, 3) := by decide +kernel
theorem dX8_makes_187 : decode cX8_makes 187 = .ok (.aload_n 0, 1) := by decide +kernel
theorem dX8_makes_188 : decode cX8_makes 188 = .ok (.getfield 58, 3) := by decide +kernel
theorem dX8_makes_191 : decode cX8_makes 191 = .ok (.iload_n 2, 1) := by decide +kernel
theorem dX8_makes_192 : decode cX8_makes 192 = .ok (.iaload, 1) := by decide +kernel
theorem dX8_makes_193 : decode cX8_makes 193 = .ok (.aload_n 0, 1) := by decide +kernel
theorem dX8_makes_194 : decode cX8_makes 194 = .ok (.getfield 58, 3) := by decide +kernel
theorem dX8_makes_197 : decode cX8_makes 197 = .ok (.iload_n 3, 1) := by decide +kernel
theorem dX8_makes_198 : decode cX8_makes 198 = .ok (.iaload, 1) := by decide +kernel
theorem dX8_makes_199 : decode cX8_makes 199 = .ok (.isub, 1) := by decide +kernel
theorem dX8_makes_200 : decode cX8_makes 200 = .ok (.goto 16, 3) := by decide +kernel
theorem dX8_makes_203 : decode cX8_makes 203 = .ok (.aload_n 0, 1) := by decide +kernel
theorem dX8_makes_204 : decode cX8_makes 204 = .ok (.getfield 58, 3) := by decide +kernel
theorem dX8_makes_207 : decode cX8_makes 207 = .ok (.iload_n 2, 1) := by decide +kernel
theorem dX8_makes_208 : decode cX8_makes 208 = .ok (.iaload, 1) := by decide +kernel
theorem dX8_makes_209 : decode cX8_makes 209 = .ok (.aload_n 0, 1) := by decide +kernel
theorem dX8_makes_210 : decode cX8_makes 210 = .ok (.getfield 58, 3) := by decide +kernel
theorem dX8_makes_213 : decode cX8_makes 213 = .ok (.iload_n 3, 1) := by decide +kernel
theorem dX8_makes_214 : decode cX8_makes 214 = .ok (.iaload, 1) := by decide +kernel
theorem dX8_makes_215 : decode cX8_makes 215 = .ok (.imul, 1) := by decide +kernel
theorem dX8_makes_216 : decode cX8_makes 216 = .ok (.iastore, 1) := by decide +kernel
theorem dX8_makes_217 : decode cX8_makes 217 = .ok (.aload_n 0, 1) := by decide +kernel
theorem dX8_makes_218 : decode cX8_makes 218 = .ok (.getfield 64, 3) := by decide +kernel
theorem dX8_makes_221 : decode cX8_makes 221 = .ok (.iload_n 2, 1) := by decide +kernel
theorem dX8_makes_222 : decode cX8_makes 222 = .ok (.dup2, 1) := by decide +kernel
theorem dX8_makes_223 : decode cX8_makes 223 = .ok (.iaload, 1) := by decide +kernel
theorem dX8_makes_224 : decode cX8_makes 224 = .ok (.aload_n 0, 1) := by decide +kernel
theorem dX8_makes_225 : decode cX8_makes 225 = .ok (.getfield 64, 3) := by decide +kernel
theorem dX8_makes_228 : decode cX8_makes 228 = .ok (.iload_n 3, 1) := by decide +kernel
theorem dX8_makes_229 : decode cX8_makes 229 = .ok (.iaload, 1) := by decide +kernel
theorem dX8_makes_230 : decode cX8_makes 230 = .ok (.ior, 1) := by decide +kernel
theorem dX8_makes_231 : decode cX8_makes 231 = .ok (.iastore, 1) := by decide +kernel
theorem dX8_makes_232 : decode cX8_makes 232 = .ok (.iload_n 1, 1) := by decide +kernel
theorem dX8_makes_233 : decode cX8_makes 233 = .ok (.iconst 2, 1) := by decide +kernel
theorem dX8_makes_234 : decode cX8_makes 234 = .ok (.if_icmp .eq 11, 3) := by decide +kernel
theorem dX8_makes_237 : decode cX8_makes 237 = .ok (.aload_n 0, 1) := by decide +kernel
theorem dX8_makes_238 : decode cX8_makes 238 = .ok (.getfield 61, 3) := by decide +kernel
theorem dX8_makes_241 : decode cX8_makes 241 = .ok (.iload_n 2, 1) := by decide +kernel
theorem dX8_makes_242 : decode cX8_makes 242 = .ok (.iload 5, 2) := by decide +kernel
theorem dX8_makes_244 : decode cX8_makes 244 = .ok (.iastore, 1) := by decide +kernel
theorem dX8_makes_245 : decode cX8_makes 245 = .ok (.return_, 1) := by decide +kernel
theorem dX8_carries_0 : decode cX8_carries 0 = .ok (.iload_n 1, 1) := by decide +kernel
theorem dX8_carries_1 : decode cX8_carries 1 = .ok (.bipush 6, 2) := by decide +kernel
theorem dX8_carries_3 : decode cX8_carries 3 = .ok (.if_icmp .ne 7, 3) := by decide +kernel
theorem dX8_carries_6 : decode cX8_carries 6 = .ok (.iload_n 3, 1) := by decide +kernel
theorem dX8_carries_7 : decode cX8_carries 7 = .ok (.goto 4, 3) := by decide +kernel
theorem dX8_carries_10 : decode cX8_carries 10 = .ok (.iload_n 2, 1) := by decide +kernel
theorem dX8_carries_11 : decode cX8_carries 11 = .ok (.istore 4, 2) := by decide +kernel
theorem dX8_carries_13 : decode cX8_carries 13 = .ok (.aload_n 0, 1) := by decide +kernel
theorem dX8_carries_14 : decode cX8_carries 14 = .ok (.getfield 64, 3) := by decide +kernel
theorem dX8_carries_17 : decode cX8_carries 17 = .ok (.iload 4, 2) := by decide +kernel
theorem dX8_carries_19 : decode cX8_carries 19 = .ok (.iaload, 1) := by decide +kernel
theorem dX8_carries_20 : decode cX8_carries 20 = .ok (.istore 5, 2) := by decide +kernel
theorem dX8_carries_22 : decode cX8_carries 22 = .ok (.iload_n 1, 1) := by decide +kernel
theorem dX8_carries_23 : decode cX8_carries 23 = .ok (.bipush 6, 2) := by decide +kernel
theorem dX8_carries_25 : decode cX8_carries 25 = .ok (.if_icmp .ne 7, 3) := by decide +kernel
theorem dX8_carries_28 : decode cX8_carries 28 = .ok (.iload_n 2, 1) := by decide +kernel
theorem dX8_carries_29 : decode cX8_carries 29 = .ok (.goto 13, 3) := by decide +kernel
theorem dX8_carries_32 : decode cX8_carries 32 = .ok (.bipush 8, 2) := by decide +kernel
theorem dX8_carries_34 : decode cX8_carries 34 = .ok (.aload_n 0, 1) := by decide +kernel
theorem dX8_carries_35 : decode cX8_carries 35 = .ok (.getfield 58, 3) := by decide +kernel
theorem dX8_carries_38 : decode cX8_carries 38 = .ok (.iload 4, 2) := by decide +kernel
theorem dX8_carries_40 : decode cX8_carries 40 = .ok (.iaload, 1) := by decide +kernel
theorem dX8_carries_41 : decode cX8_carries 41 = .ok (.iadd, 1) := by decide +kernel
theorem dX8_carries_42 : decode cX8_carries 42 = .ok (.istore 6, 2) := by decide +kernel
theorem dX8_carries_44 : decode cX8_carries 44 = .ok (.iload_n 1, 1) := by decide +kernel
theorem dX8_carries_45 : decode cX8_carries 45 = .ok (.bipush 6, 2) := by decide +kernel
theorem dX8_carries_47 : decode cX8_carries 47 = .ok (.if_icmp .ne 16, 3) := by decide +kernel
theorem dX8_carries_50 : decode cX8_carries 50 = .ok (.bipush 8, 2) := by decide +kernel
theorem dX8_carries_52 : decode cX8_carries 52 = .ok (.aload_n 0, 1) := by decide +kernel
theorem dX8_carries_53 : decode cX8_carries 53 = .ok (.getfield 58, 3) := by decide +kernel
theorem dX8_carries_56 : decode cX8_carries 56 = .ok (.iload 4, 2) := by decide +kernel
theorem dX8_carries_58 : decode cX8_carries 58 = .ok (.iaload, 1) := by decide +kernel
theorem dX8_carries_59 : decode cX8_carries 59 = .ok (.iadd, 1) := by decide +kernel
theorem dX8_carries_60 : decode cX8_carries 60 = .ok (.goto 4, 3) := by decide +kernel
theorem dX8_carries_63 : decode cX8_carries 63 = .ok (.iload_n 3, 1) := by decide +kernel
theorem dX8_carries_64 : decode cX8_carries 64 = .ok (.istore 7, 2) := by decide +kernel
theorem dX8_carries_66 : decode cX8_carries 66 = .ok (.aload_n 0, 1) := by decide +kernel
theorem dX8_carries_67 : decode cX8_carries 67 = .ok (.getfield 58, 3) := by decide +kernel
theorem dX8_carries_70 : decode cX8_carries 70 = .ok (.iload 6, 2) := by decide +kernel
theorem dX8_carries_72 : decode cX8_carries 72 = .ok (.aload_n 0, 1) := by decide +kernel
theorem dX8_carries_73 : decode cX8_carries 73 = .ok (.getfield 58, 3) := by decide +kernel
theorem dX8_carries_76 : decode cX8_carries 76 = .ok (.iload 7, 2) := by decide +kernel
theorem dX8_carries_78 : decode cX8_carries 78 = .ok (.iaload, 1) := by decide +kernel
theorem dX8_carries_79 : decode cX8_carries 79 = .ok (.iastore, 1) := by decide +kernel
theorem dX8_carries_80 : decode cX8_carries 80 = .ok (.aload_n 0, 1) := by decide +kernel
theorem dX8_carries_81 : decode cX8_carries 81 = .ok (.getfield 61, 3) := by decide +kernel
theorem dX8_carries_84 : decode cX8_carries 84 = .ok (.iload 6, 2) := by decide +kernel
theorem dX8_carries_86 : decode cX8_carries 86 = .ok (.aload_n 0, 1) := by decide +kernel
theorem dX8_carries_87 : decode cX8_carries 87 = .ok (.getfield 61, 3) := by decide +kernel
theorem dX8_carries_90 : decode cX8_carries 90 = .ok (.iload 7, 2) := by decide +kernel
theorem dX8_carries_92 : decode cX8_carries 92 = .ok (.iaload, 1) := by decide +kernel
theorem dX8_carries_93 : decode cX8_carries 93 = .ok (.iastore, 1) := by decide +kernel
theorem dX8_carries_94 : decode cX8_carries 94 = .ok (.aload_n 0, 1) := by decide +kernel
theorem dX8_carries_95 : decode cX8_carries 95 = .ok (.getfield 64, 3) := by decide +kernel
theorem dX8_carries_98 : decode cX8_carries 98 = .ok (.iload 6, 2) := by decide +kernel
theorem dX8_carries_100 : decode cX8_carries 100 = .ok (.aload_n 0, 1) := by decide +kernel
theorem dX8_carries_101 : decode cX8_carries 101 = .ok (.getfield 64, 3) := by decide +kernel
theorem dX8_carries_104 : decode cX8_carries 104 = .ok (.iload 7, 2) := by decide +kernel
theorem dX8_carries_106 : decode cX8_carries 106 = .ok (.iaload, 1) := by decide +kernel
theorem dX8_carries_107 : decode cX8_carries 107 = .ok (.iload 5, 2) := by decide +kernel
theorem dX8_carries_109 : decode cX8_carries 109 = .ok (.ior, 1) := by decide +kernel
theorem dX8_carries_110 : decode cX8_carries 110 = .ok (.iastore, 1) := by decide +kernel
theorem dX8_carries_111 : decode cX8_carries 111 = .ok (.return_, 1) := by decide +kernel
theorem dX8_goes_0 : decode cX8_goes 0 = .ok (.iload_n 1, 1) := by decide +kernel
theorem dX8_goes_1 : decode cX8_goes 1 = .ok (.tableswitch 142 8 12 #[35, 59, 83, 92, 105], 35) := by decide +kernel
theorem dX8_goes_36 : decode cX8_goes 36 = .ok (.aload_n 0, 1) := by decide +kernel
theorem dX8_goes_37 : decode cX8_goes 37 = .ok (.getfield 58, 3) := by decide +kernel
theorem dX8_goes_40 : decode cX8_goes 40 = .ok (.iload_n 2, 1) := by decide +kernel
theorem dX8_goes_41 : decode cX8_goes 41 = .ok (.iaload, 1) := by decide +kernel
theorem dX8_goes_42 : decode cX8_goes 42 = .ok (.aload_n 0, 1) := by decide +kernel
theorem dX8_goes_43 : decode cX8_goes 43 = .ok (.getfield 58, 3) := by decide +kernel
theorem dX8_goes_46 : decode cX8_goes 46 = .ok (.iload_n 3, 1) := by decide +kernel
theorem dX8_goes_47 : decode cX8_goes 47 = .ok (.iaload, 1) := by decide +kernel
theorem dX8_goes_48 : decode cX8_goes 48 = .ok (.if_icmp .ge 100, 3) := by decide +kernel
theorem dX8_goes_51 : decode cX8_goes 51 = .ok (.aload_n 0, 1) := by decide +kernel
theorem dX8_goes_52 : decode cX8_goes 52 = .ok (.iload 4, 2) := by decide +kernel
theorem dX8_goes_54 : decode cX8_goes 54 = .ok (.putfield 258, 3) := by decide +kernel
theorem dX8_goes_57 : decode cX8_goes 57 = .ok (.goto 91, 3) := by decide +kernel
theorem dX8_goes_60 : decode cX8_goes 60 = .ok (.aload_n 0, 1) := by decide +kernel
theorem dX8_goes_61 : decode cX8_goes 61 = .ok (.getfield 58, 3) := by decide +kernel
theorem dX8_goes_64 : decode cX8_goes 64 = .ok (.iload_n 2, 1) := by decide +kernel
theorem dX8_goes_65 : decode cX8_goes 65 = .ok (.iaload, 1) := by decide +kernel
theorem dX8_goes_66 : decode cX8_goes 66 = .ok (.aload_n 0, 1) := by decide +kernel
theorem dX8_goes_67 : decode cX8_goes 67 = .ok (.getfield 58, 3) := by decide +kernel
theorem dX8_goes_70 : decode cX8_goes 70 = .ok (.iload_n 3, 1) := by decide +kernel
theorem dX8_goes_71 : decode cX8_goes 71 = .ok (.iaload, 1) := by decide +kernel
theorem dX8_goes_72 : decode cX8_goes 72 = .ok (.if_icmp .ne 76, 3) := by decide +kernel
theorem dX8_goes_75 : decode cX8_goes 75 = .ok (.aload_n 0, 1) := by decide +kernel
theorem dX8_goes_76 : decode cX8_goes 76 = .ok (.iload 4, 2) := by decide +kernel
theorem dX8_goes_78 : decode cX8_goes 78 = .ok (.putfield 258, 3) := by decide +kernel
theorem dX8_goes_81 : decode cX8_goes 81 = .ok (.goto 67, 3) := by decide +kernel
theorem dX8_goes_84 : decode cX8_goes 84 = .ok (.aload_n 0, 1) := by decide +kernel
theorem dX8_goes_85 : decode cX8_goes 85 = .ok (.iload 4, 2) := by decide +kernel
theorem dX8_goes_87 : decode cX8_goes 87 = .ok (.putfield 258, 3) := by decide +kernel
theorem dX8_goes_90 : decode cX8_goes 90 = .ok (.goto 58, 3) := by decide +kernel
theorem dX8_goes_93 : decode cX8_goes 93 = .ok (.aload_n 0, 1) := by decide +kernel
theorem dX8_goes_94 : decode cX8_goes 94 = .ok (.aload_n 0, 1) := by decide +kernel
theorem dX8_goes_95 : decode cX8_goes 95 = .ok (.getfield 58, 3) := by decide +kernel
theorem dX8_goes_98 : decode cX8_goes 98 = .ok (.iload_n 2, 1) := by decide +kernel
theorem dX8_goes_99 : decode cX8_goes 99 = .ok (.iaload, 1) := by decide +kernel
theorem dX8_goes_100 : decode cX8_goes 100 = .ok (.putfield 258, 3) := by decide +kernel
theorem dX8_goes_103 : decode cX8_goes 103 = .ok (.goto 45, 3) := by decide +kernel
theorem dX8_goes_106 : decode cX8_goes 106 = .ok (.aload_n 0, 1) := by decide +kernel
theorem dX8_goes_107 : decode cX8_goes 107 = .ok (.getfield 252, 3) := by decide +kernel
theorem dX8_goes_110 : decode cX8_goes 110 = .ok (.bipush 40, 2) := by decide +kernel
theorem dX8_goes_112 : decode cX8_goes 112 = .ok (.if_icmp .ge 18, 3) := by decide +kernel
theorem dX8_goes_115 : decode cX8_goes 115 = .ok (.aload_n 0, 1) := by decide +kernel
theorem dX8_goes_116 : decode cX8_goes 116 = .ok (.getfield 67, 3) := by decide +kernel
theorem dX8_goes_119 : decode cX8_goes 119 = .ok (.aload_n 0, 1) := by decide +kernel
theorem dX8_goes_120 : decode cX8_goes 120 = .ok (.getfield 252, 3) := by decide +kernel
theorem dX8_goes_123 : decode cX8_goes 123 = .ok (.aload_n 0, 1) := by decide +kernel
theorem dX8_goes_124 : decode cX8_goes 124 = .ok (.getfield 58, 3) := by decide +kernel
theorem dX8_goes_127 : decode cX8_goes 127 = .ok (.iload_n 2, 1) := by decide +kernel
theorem dX8_goes_128 : decode cX8_goes 128 = .ok (.iaload, 1) := by decide +kernel
theorem dX8_goes_129 : decode cX8_goes 129 = .ok (.iastore, 1) := by decide +kernel
theorem dX8_goes_130 : decode cX8_goes 130 = .ok (.aload_n 0, 1) := by decide +kernel
theorem dX8_goes_131 : decode cX8_goes 131 = .ok (.dup, 1) := by decide +kernel
theorem dX8_goes_132 : decode cX8_goes 132 = .ok (.getfield 252, 3) := by decide +kernel
theorem dX8_goes_135 : decode cX8_goes 135 = .ok (.iconst 1, 1) := by decide +kernel
theorem dX8_goes_136 : decode cX8_goes 136 = .ok (.iadd, 1) := by decide +kernel
theorem dX8_goes_137 : decode cX8_goes 137 = .ok (.putfield 252, 3) := by decide +kernel
theorem dX8_goes_140 : decode cX8_goes 140 = .ok (.goto 8, 3) := by decide +kernel
theorem dX8_goes_143 : decode cX8_goes 143 = .ok (.aload_n 0, 1) := by decide +kernel
theorem dX8_goes_144 : decode cX8_goes 144 = .ok (.iconst 0, 1) := by decide +kernel
theorem dX8_goes_145 : decode cX8_goes 145 = .ok (.putfield 234, 3) := by decide +kernel
theorem dX8_goes_148 : decode cX8_goes 148 = .ok (.return_, 1) := by decide +kernel
theorem dX8_run_0 : decode cX8_run 0 = .ok (.iload_n 1, 1) := by decide +kernel
theorem dX8_run_1 : decode cX8_run 1 = .ok (.invokestatic 181, 3) := by decide +kernel
theorem dX8_run_4 : decode cX8_run 4 = .ok (.ifCond .eq 11, 3) := by decide +kernel
theorem dX8_run_7 : decode cX8_run 7 = .ok (.aload_n 0, 1) := by decide +kernel
theorem dX8_run_8 : decode cX8_run 8 = .ok (.iload_n 2, 1) := by decide +kernel
theorem dX8_run_9 : decode cX8_run 9 = .ok (.invokevirtual 228, 3) := by decide +kernel
theorem dX8_run_12 : decode cX8_run 12 = .ok (.ifCond .ne 5, 3) := by decide +kernel
theorem dX8_run_15 : decode cX8_run 15 = .ok (.iconst (-1), 1) := by decide +kernel
theorem dX8_run_16 : decode cX8_run 16 = .ok (.ireturn, 1) := by decide +kernel
theorem dX8_run_17 : decode cX8_run 17 = .ok (.aload_n 0, 1) := by decide +kernel
theorem dX8_run_18 : decode cX8_run 18 = .ok (.iload_n 2, 1) := by decide +kernel
theorem dX8_run_19 : decode cX8_run 19 = .ok (.invokevirtual 282, 3) := by decide +kernel
theorem dX8_run_22 : decode cX8_run 22 = .ok (.aload_n 0, 1) := by decide +kernel
theorem dX8_run_23 : decode cX8_run 23 = .ok (.iload_n 1, 1) := by decide +kernel
theorem dX8_run_24 : decode cX8_run 24 = .ok (.invokevirtual 285, 3) := by decide +kernel
theorem dX8_run_27 : decode cX8_run 27 = .ok (.aload_n 0, 1) := by decide +kernel
theorem dX8_run_28 : decode cX8_run 28 = .ok (.iconst 1, 1) := by decide +kernel
theorem dX8_run_29 : decode cX8_run 29 = .ok (.putfield 288, 3) := by decide +kernel
theorem dX8_run_32 : decode cX8_run 32 = .ok (.aload_n 0, 1) := by decide +kernel
theorem dX8_run_33 : decode cX8_run 33 = .ok (.getfield 82, 3) := by decide +kernel
theorem dX8_run_36 : decode cX8_run 36 = .ok (.iconst 0, 1) := by decide +kernel
theorem dX8_run_37 : decode cX8_run 37 = .ok (.aload_n 0, 1) := by decide +kernel
theorem dX8_run_38 : decode cX8_run 38 = .ok (.getfield 249, 3) := by decide +kernel
theorem dX8_run_41 : decode cX8_run 41 = .ok (.iastore, 1) := by decide +kernel
theorem dX8_run_42 : decode cX8_run 42 = .ok (.aload_n 0, 1) := by decide +kernel
theorem dX8_run_43 : decode cX8_run 43 = .ok (.getfield 82, 3) := by decide +kernel
theorem dX8_run_46 : decode cX8_run 46 = .ok (.iconst 1, 1) := by decide +kernel
theorem dX8_run_47 : decode cX8_run 47 = .ok (.aload_n 0, 1) := by decide +kernel
theorem dX8_run_48 : decode cX8_run 48 = .ok (.getfield 237, 3) := by decide +kernel
theorem dX8_run_51 : decode cX8_run 51 = .ok (.iastore, 1) := by decide +kernel
theorem dX8_run_52 : decode cX8_run 52 = .ok (.aload_n 0, 1) := by decide +kernel
theorem dX8_run_53 : decode cX8_run 53 = .ok (.getfield 82, 3) := by decide +kernel
theorem dX8_run_56 : decode cX8_run 56 = .ok (.iconst 2, 1) := by decide +kernel
theorem dX8_run_57 : decode cX8_run 57 = .ok (.aload_n 0, 1) := by decide +kernel
theorem dX8_run_58 : decode cX8_run 58 = .ok (.getfield 240, 3) := by decide +kernel
theorem dX8_run_61 : decode cX8_run 61 = .ok (.iastore, 1) := by decide +kernel
theorem dX8_run_62 : decode cX8_run 62 = .ok (.aload_n 0, 1) := by decide +kernel
theorem dX8_run_63 : decode cX8_run 63 = .ok (.getfield 82, 3) := by decide +kernel
theorem dX8_run_66 : decode cX8_run 66 = .ok (.iconst 3, 1) := by decide +kernel
theorem dX8_run_67 : decode cX8_run 67 = .ok (.aload_n 0, 1) := by decide +kernel
theorem dX8_run_68 : decode cX8_run 68 = .ok (.getfield 243, 3) := by decide +kernel
theorem dX8_run_71 : decode cX8_run 71 = .ok (.iastore, 1) := by decide +kernel
theorem dX8_run_72 : decode cX8_run 72 = .ok (.aload_n 0, 1) := by decide +kernel
theorem dX8_run_73 : decode cX8_run 73 = .ok (.getfield 82, 3) := by decide +kernel
theorem dX8_run_76 : decode cX8_run 76 = .ok (.iconst 4, 1) := by decide +kernel
theorem dX8_run_77 : decode cX8_run 77 = .ok (.aload_n 0, 1) := by decide +kernel
theorem dX8_run_78 : decode cX8_run 78 = .ok (.getfield 246, 3) := by decide +kernel
theorem dX8_run_81 : decode cX8_run 81 = .ok (.iastore, 1) := by decide +kernel
theorem dX8_run_82 : decode cX8_run 82 = .ok (.aload_n 0, 1) := by decide +kernel
theorem dX8_run_83 : decode cX8_run 83 = .ok (.getfield 82, 3) := by decide +kernel
theorem dX8_run_86 : decode cX8_run 86 = .ok (.iconst 5, 1) := by decide +kernel
theorem dX8_run_87 : decode cX8_run 87 = .ok (.aload_n 0, 1) := by decide +kernel
theorem dX8_run_88 : decode cX8_run 88 = .ok (.getfield 252, 3) := by decide +kernel
theorem dX8_run_91 : decode cX8_run 91 = .ok (.iastore, 1) := by decide +kernel
theorem dX8_run_92 : decode cX8_run 92 = .ok (.aload_n 0, 1) := by decide +kernel
theorem dX8_run_93 : decode cX8_run 93 = .ok (.getfield 82, 3) := by decide +kernel
theorem dX8_run_96 : decode cX8_run 96 = .ok (.bipush 6, 2) := by decide +kernel
theorem dX8_run_98 : decode cX8_run 98 = .ok (.aload_n 0, 1) := by decide +kernel
theorem dX8_run_99 : decode cX8_run 99 = .ok (.getfield 255, 3) := by decide +kernel
theorem dX8_run_102 : decode cX8_run 102 = .ok (.iastore, 1) := by decide +kernel
theorem dX8_run_103 : decode cX8_run 103 = .ok (.iconst 0, 1) := by decide +kernel
theorem dX8_run_104 : decode cX8_run 104 = .ok (.istore_n 3, 1) := by decide +kernel
theorem dX8_run_105 : decode cX8_run 105 = .ok (.iload_n 3, 1) := by decide +kernel
theorem dX8_run_106 : decode cX8_run 106 = .ok (.bipush 40, 2) := by decide +kernel
theorem dX8_run_108 : decode cX8_run 108 = .ok (.if_icmp .ge 57, 3) := by decide +kernel
theorem dX8_run_111 : decode cX8_run 111 = .ok (.aload_n 0, 1) := by decide +kernel
theorem dX8_run_112 : decode cX8_run 112 = .ok (.getfield 70, 3) := by decide +kernel
theorem dX8_run_115 : decode cX8_run 115 = .ok (.iload_n 3, 1) := by decide +kernel
theorem dX8_run_116 : decode cX8_run 116 = .ok (.aload_n 0, 1) := by decide +kernel
theorem dX8_run_117 : decode cX8_run 117 = .ok (.getfield 58, 3) := by decide +kernel
theorem dX8_run_120 : decode cX8_run 120 = .ok (.iload_n 3, 1) := by decide +kernel
theorem dX8_run_121 : decode cX8_run 121 = .ok (.iaload, 1) := by decide +kernel
theorem dX8_run_122 : decode cX8_run 122 = .ok (.iastore, 1) := by decide +kernel
theorem dX8_run_123 : decode cX8_run 123 = .ok (.aload_n 0, 1) := by decide +kernel
theorem dX8_run_124 : decode cX8_run 124 = .ok (.getfield 73, 3) := by decide +kernel
theorem dX8_run_127 : decode cX8_run 127 = .ok (.iload_n 3, 1) := by decide +kernel
theorem dX8_run_128 : decode cX8_run 128 = .ok (.aload_n 0, 1) := by decide +kernel
theorem dX8_run_129 : decode cX8_run 129 = .ok (.getfield 61, 3) := by decide +kernel
theorem dX8_run_132 : decode cX8_run 132 = .ok (.iload_n 3, 1) := by decide +kernel
theorem dX8_run_133 : decode cX8_run 133 = .ok (.iaload, 1) := by decide +kernel
theorem dX8_run_134 : decode cX8_run 134 = .ok (.iastore, 1) := by decide +kernel
theorem dX8_run_135 : decode cX8_run 135 = .ok (.aload_n 0, 1) := by decide +kernel
theorem dX8_run_136 : decode cX8_run 136 = .ok (.getfield 76, 3) := by decide +kernel
theorem dX8_run_139 : decode cX8_run 139 = .ok (.iload_n 3, 1) := by decide +kernel
theorem dX8_run_140 : decode cX8_run 140 = .ok (.aload_n 0, 1) := by decide +kernel
theorem dX8_run_141 : decode cX8_run 141 = .ok (.getfield 64, 3) := by decide +kernel
theorem dX8_run_144 : decode cX8_run 144 = .ok (.iload_n 3, 1) := by decide +kernel
theorem dX8_run_145 : decode cX8_run 145 = .ok (.iaload, 1) := by decide +kernel
theorem dX8_run_146 : decode cX8_run 146 = .ok (.iastore, 1) := by decide +kernel
theorem dX8_run_147 : decode cX8_run 147 = .ok (.aload_n 0, 1) := by decide +kernel
theorem dX8_run_148 : decode cX8_run 148 = .ok (.getfield 79, 3) := by decide +kernel
theorem dX8_run_151 : decode cX8_run 151 = .ok (.iload_n 3, 1) := by decide +kernel
theorem dX8_run_152 : decode cX8_run 152 = .ok (.aload_n 0, 1) := by decide +kernel
theorem dX8_run_153 : decode cX8_run 153 = .ok (.getfield 67, 3) := by decide +kernel
theorem dX8_run_156 : decode cX8_run 156 = .ok (.iload_n 3, 1) := by decide +kernel
theorem dX8_run_157 : decode cX8_run 157 = .ok (.iaload, 1) := by decide +kernel
theorem dX8_run_158 : decode cX8_run 158 = .ok (.iastore, 1) := by decide +kernel
theorem dX8_run_159 : decode cX8_run 159 = .ok (.iinc 3 1, 3) := by decide +kernel
theorem dX8_run_162 : decode cX8_run 162 = .ok (.goto (-57), 3) := by decide +kernel
theorem dX8_run_165 : decode cX8_run 165 = .ok (.aload_n 0, 1) := by decide +kernel
theorem dX8_run_166 : decode cX8_run 166 = .ok (.getfield 234, 3) := by decide +kernel
theorem dX8_run_169 : decode cX8_run 169 = .ok (.ireturn, 1) := by decide +kernel
theorem dX8_ran_0 : decode cX8_ran 0 = .ok (.aload_n 0, 1) := by decide +kernel
theorem dX8_ran_1 : decode cX8_ran 1 = .ok (.getfield 288, 3) := by decide +kernel
theorem dX8_ran_4 : decode cX8_ran 4 = .ok (.ifCond .eq 13, 3) := by decide +kernel
theorem dX8_ran_7 : decode cX8_ran 7 = .ok (.iload_n 1, 1) := by decide +kernel
theorem dX8_ran_8 : decode cX8_ran 8 = .ok (.ifCond .lt 9, 3) := by decide +kernel
theorem dX8_ran_11 : decode cX8_ran 11 = .ok (.iload_n 1, 1) := by decide +kernel
theorem dX8_ran_12 : decode cX8_ran 12 = .ok (.bipush 6, 2) := by decide +kernel
theorem dX8_ran_14 : decode cX8_ran 14 = .ok (.if_icmp .le 7, 3) := by decide +kernel
theorem dX8_ran_17 : decode cX8_ran 17 = .ok (.iconst (-1), 1) := by decide +kernel
theorem dX8_ran_18 : decode cX8_ran 18 = .ok (.goto 9, 3) := by decide +kernel
theorem dX8_ran_21 : decode cX8_ran 21 = .ok (.aload_n 0, 1) := by decide +kernel
theorem dX8_ran_22 : decode cX8_ran 22 = .ok (.getfield 82, 3) := by decide +kernel
theorem dX8_ran_25 : decode cX8_ran 25 = .ok (.iload_n 1, 1) := by decide +kernel
theorem dX8_ran_26 : decode cX8_ran 26 = .ok (.iaload, 1) := by decide +kernel
