theorem dX0_init_0 : decode cX0_init 0 = .ok (.aload_n 0, 1) := by decide +kernel
theorem dX0_init_1 : decode cX0_init 1 = .ok (.invokespecial 3, 3) := by decide +kernel
theorem dX0_init_4 : decode cX0_init 4 = .ok (.aload_n 0, 1) := by decide +kernel
theorem dX0_init_5 : decode cX0_init 5 = .ok (.bipush 40, 2) := by decide +kernel
theorem dX0_init_7 : decode cX0_init 7 = .ok (.newarray .int, 2) := by decide +kernel
theorem dX0_init_9 : decode cX0_init 9 = .ok (.putfield 9, 3) := by decide +kernel
theorem dX0_init_12 : decode cX0_init 12 = .ok (.aload_n 0, 1) := by decide +kernel
theorem dX0_init_13 : decode cX0_init 13 = .ok (.bipush 40, 2) := by decide +kernel
theorem dX0_init_15 : decode cX0_init 15 = .ok (.newarray .int, 2) := by decide +kernel
theorem dX0_init_17 : decode cX0_init 17 = .ok (.putfield 15, 3) := by decide +kernel
theorem dX0_init_20 : decode cX0_init 20 = .ok (.aload_n 0, 1) := by decide +kernel
theorem dX0_init_21 : decode cX0_init 21 = .ok (.bipush 40, 2) := by decide +kernel
theorem dX0_init_23 : decode cX0_init 23 = .ok (.newarray .int, 2) := by decide +kernel
theorem dX0_init_25 : decode cX0_init 25 = .ok (.putfield 18, 3) := by decide +kernel
theorem dX0_init_28 : decode cX0_init 28 = .ok (.aload_n 0, 1) := by decide +kernel
theorem dX0_init_29 : decode cX0_init 29 = .ok (.bipush 40, 2) := by decide +kernel
theorem dX0_init_31 : decode cX0_init 31 = .ok (.newarray .int, 2) := by decide +kernel
theorem dX0_init_33 : decode cX0_init 33 = .ok (.putfield 21, 3) := by decide +kernel
theorem dX0_init_36 : decode cX0_init 36 = .ok (.aload_n 0, 1) := by decide +kernel
theorem dX0_init_37 : decode cX0_init 37 = .ok (.iconst 0, 1) := by decide +kernel
theorem dX0_init_38 : decode cX0_init 38 = .ok (.putfield 24, 3) := by decide +kernel
theorem dX0_init_41 : decode cX0_init 41 = .ok (.aload_n 0, 1) := by decide +kernel
theorem dX0_init_42 : decode cX0_init 42 = .ok (.iconst 0, 1) := by decide +kernel
theorem dX0_init_43 : decode cX0_init 43 = .ok (.putfield 28, 3) := by decide +kernel
theorem dX0_init_46 : decode cX0_init 46 = .ok (.aload_n 0, 1) := by decide +kernel
theorem dX0_init_47 : decode cX0_init 47 = .ok (.iconst 0, 1) := by decide +kernel
theorem dX0_init_48 : decode cX0_init 48 = .ok (.putfield 31, 3) := by decide +kernel
theorem dX0_init_51 : decode cX0_init 51 = .ok (.aload_n 0, 1) := by decide +kernel
theorem dX0_init_52 : decode cX0_init 52 = .ok (.iconst (-1), 1) := by decide +kernel
theorem dX0_init_53 : decode cX0_init 53 = .ok (.putfield 34, 3) := by decide +kernel
theorem dX0_init_56 : decode cX0_init 56 = .ok (.aload_n 0, 1) := by decide +kernel
theorem dX0_init_57 : decode cX0_init 57 = .ok (.iconst (-1), 1) := by decide +kernel
theorem dX0_init_58 : decode cX0_init 58 = .ok (.putfield 37, 3) := by decide +kernel
theorem dX0_init_61 : decode cX0_init 61 = .ok (.aload_n 0, 1) := by decide +kernel
theorem dX0_init_62 : decode cX0_init 62 = .ok (.iconst 0, 1) := by decide +kernel
theorem dX0_init_63 : decode cX0_init 63 = .ok (.putfield 40, 3) := by decide +kernel
theorem dX0_init_66 : decode cX0_init 66 = .ok (.aload_n 0, 1) := by decide +kernel
theorem dX0_init_67 : decode cX0_init 67 = .ok (.iconst (-1), 1) := by decide +kernel
theorem dX0_init_68 : decode cX0_init 68 = .ok (.putfield 43, 3) := by decide +kernel
theorem dX0_init_71 : decode cX0_init 71 = .ok (.aload_n 0, 1) := by decide +kernel
theorem dX0_init_72 : decode cX0_init 72 = .ok (.iconst 0, 1) := by decide +kernel
theorem dX0_init_73 : decode cX0_init 73 = .ok (.putfield 46, 3) := by decide +kernel
theorem dX0_init_76 : decode cX0_init 76 = .ok (.aload_n 0, 1) := by decide +kernel
theorem dX0_init_77 : decode cX0_init 77 = .ok (.iconst 0, 1) := by decide +kernel
theorem dX0_init_78 : decode cX0_init 78 = .ok (.putfield 49, 3) := by decide +kernel
theorem dX0_init_81 : decode cX0_init 81 = .ok (.return_, 1) := by decide +kernel
theorem dX0_runWhole_0 : decode cX0_runWhole 0 = .ok (.aload_n 0, 1) := by decide +kernel
theorem dX0_runWhole_1 : decode cX0_runWhole 1 = .ok (.invokevirtual 52, 3) := by decide +kernel
theorem dX0_runWhole_4 : decode cX0_runWhole 4 = .ok (.iconst 0, 1) := by decide +kernel
theorem dX0_runWhole_5 : decode cX0_runWhole 5 = .ok (.istore_n 3, 1) := by decide +kernel
theorem dX0_runWhole_6 : decode cX0_runWhole 6 = .ok (.iload_n 3, 1) := by decide +kernel
theorem dX0_runWhole_7 : decode cX0_runWhole 7 = .ok (.sipush 1000, 3) := by decide +kernel
theorem dX0_runWhole_10 : decode cX0_runWhole 10 = .ok (.if_icmp .gt 71, 3) := by decide +kernel
theorem dX0_runWhole_13 : decode cX0_runWhole 13 = .ok (.aload_n 0, 1) := by decide +kernel
theorem dX0_runWhole_14 : decode cX0_runWhole 14 = .ok (.getfield 34, 3) := by decide +kernel
theorem dX0_runWhole_17 : decode cX0_runWhole 17 = .ok (.iconst (-1), 1) := by decide +kernel
theorem dX0_runWhole_18 : decode cX0_runWhole 18 = .ok (.if_icmp .ne 63, 3) := by decide +kernel
theorem dX0_runWhole_21 : decode cX0_runWhole 21 = .ok (.aload_n 0, 1) := by decide +kernel
theorem dX0_runWhole_22 : decode cX0_runWhole 22 = .ok (.getfield 49, 3) := by decide +kernel
theorem dX0_runWhole_25 : decode cX0_runWhole 25 = .ok (.ifCond .lt 14, 3) := by decide +kernel
theorem dX0_runWhole_28 : decode cX0_runWhole 28 = .ok (.aload_n 0, 1) := by decide +kernel
theorem dX0_runWhole_29 : decode cX0_runWhole 29 = .ok (.getfield 49, 3) := by decide +kernel
theorem dX0_runWhole_32 : decode cX0_runWhole 32 = .ok (.aload_n 1, 1) := by decide +kernel
theorem dX0_runWhole_33 : decode cX0_runWhole 33 = .ok (.getfield 55, 3) := by decide +kernel
theorem dX0_runWhole_36 : decode cX0_runWhole 36 = .ok (.if_icmp .lt 11, 3) := by decide +kernel
theorem dX0_runWhole_39 : decode cX0_runWhole 39 = .ok (.aload_n 0, 1) := by decide +kernel
theorem dX0_runWhole_40 : decode cX0_runWhole 40 = .ok (.iconst 0, 1) := by decide +kernel
theorem dX0_runWhole_41 : decode cX0_runWhole 41 = .ok (.putfield 34, 3) := by decide +kernel
theorem dX0_runWhole_44 : decode cX0_runWhole 44 = .ok (.goto 31, 3) := by decide +kernel
theorem dX0_runWhole_47 : decode cX0_runWhole 47 = .ok (.aload_n 0, 1) := by decide +kernel
theorem dX0_runWhole_48 : decode cX0_runWhole 48 = .ok (.getfield 31, 3) := by decide +kernel
theorem dX0_runWhole_51 : decode cX0_runWhole 51 = .ok (.sipush 1000, 3) := by decide +kernel
theorem dX0_runWhole_54 : decode cX0_runWhole 54 = .ok (.if_icmp .lt 11, 3) := by decide +kernel
theorem dX0_runWhole_57 : decode cX0_runWhole 57 = .ok (.aload_n 0, 1) := by decide +kernel
theorem dX0_runWhole_58 : decode cX0_runWhole 58 = .ok (.iconst 4, 1) := by decide +kernel
theorem dX0_runWhole_59 : decode cX0_runWhole 59 = .ok (.putfield 34, 3) := by decide +kernel
theorem dX0_runWhole_62 : decode cX0_runWhole 62 = .ok (.goto 13, 3) := by decide +kernel
theorem dX0_runWhole_65 : decode cX0_runWhole 65 = .ok (.aload_n 0, 1) := by decide +kernel
theorem dX0_runWhole_66 : decode cX0_runWhole 66 = .ok (.aload_n 1, 1) := by decide +kernel
theorem dX0_runWhole_67 : decode cX0_runWhole 67 = .ok (.aload_n 0, 1) := by decide +kernel
theorem dX0_runWhole_68 : decode cX0_runWhole 68 = .ok (.getfield 49, 3) := by decide +kernel
theorem dX0_runWhole_71 : decode cX0_runWhole 71 = .ok (.aload_n 2, 1) := by decide +kernel
theorem dX0_runWhole_72 : decode cX0_runWhole 72 = .ok (.invokevirtual 60, 3) := by decide +kernel
theorem dX0_runWhole_75 : decode cX0_runWhole 75 = .ok (.iinc 3 1, 3) := by decide +kernel
theorem dX0_runWhole_78 : decode cX0_runWhole 78 = .ok (.goto (-72), 3) := by decide +kernel
theorem dX0_runWhole_81 : decode cX0_runWhole 81 = .ok (.return_, 1) := by decide +kernel
theorem dX0_endedAtAct_0 : decode cX0_endedAtAct 0 = .ok (.aload_n 0, 1) := by decide +kernel
theorem dX0_endedAtAct_1 : decode cX0_endedAtAct 1 = .ok (.getfield 37, 3) := by decide +kernel
theorem dX0_endedAtAct_4 : decode cX0_endedAtAct 4 = .ok (.iconst (-1), 1) := by decide +kernel
theorem dX0_endedAtAct_5 : decode cX0_endedAtAct 5 = .ok (.if_icmp .eq 7, 3) := by decide +kernel
theorem dX0_endedAtAct_8 : decode cX0_endedAtAct 8 = .ok (.iconst 1, 1) := by decide +kernel
theorem dX0_endedAtAct_9 : decode cX0_endedAtAct 9 = .ok (.goto 4, 3) := by decide +kernel
theorem dX0_endedAtAct_12 : decode cX0_endedAtAct 12 = .ok (.iconst 0, 1) := by decide +kernel
theorem dX0_endedAtAct_13 : decode cX0_endedAtAct 13 = .ok (.ireturn, 1) := by decide +kernel
theorem dX0_hasCauseOf_0 : decode cX0_hasCauseOf 0 = .ok (.aload_n 0, 1) := by decide +kernel
theorem dX0_hasCauseOf_1 : decode cX0_hasCauseOf 1 = .ok (.getfield 34, 3) := by decide +kernel
theorem dX0_hasCauseOf_4 : decode cX0_hasCauseOf 4 = .ok (.aload_n 1, 1) := by decide +kernel
theorem dX0_hasCauseOf_5 : decode cX0_hasCauseOf 5 = .ok (.getfield 34, 3) := by decide +kernel
theorem dX0_hasCauseOf_8 : decode cX0_hasCauseOf 8 = .ok (.if_icmp .ne 29, 3) := by decide +kernel
theorem dX0_hasCauseOf_11 : decode cX0_hasCauseOf 11 = .ok (.aload_n 0, 1) := by decide +kernel
theorem dX0_hasCauseOf_12 : decode cX0_hasCauseOf 12 = .ok (.getfield 37, 3) := by decide +kernel
theorem dX0_hasCauseOf_15 : decode cX0_hasCauseOf 15 = .ok (.aload_n 1, 1) := by decide +kernel
theorem dX0_hasCauseOf_16 : decode cX0_hasCauseOf 16 = .ok (.getfield 37, 3) := by decide +kernel
theorem dX0_hasCauseOf_19 : decode cX0_hasCauseOf 19 = .ok (.if_icmp .ne 18, 3) := by decide +kernel
theorem dX0_hasCauseOf_22 : decode cX0_hasCauseOf 22 = .ok (.aload_n 0, 1) := by decide +kernel
theorem dX0_hasCauseOf_23 : decode cX0_hasCauseOf 23 = .ok (.getfield 43, 3) := by decide +kernel
theorem dX0_hasCauseOf_26 : decode cX0_hasCauseOf 26 = .ok (.aload_n 1, 1) := by decide +kernel
theorem dX0_hasCauseOf_27 : decode cX0_hasCauseOf 27 = .ok (.getfield 43, 3) := by decide +kernel
theorem dX0_hasCauseOf_30 : decode cX0_hasCauseOf 30 = .ok (.if_icmp .ne 7, 3) := by decide +kernel
theorem dX0_hasCauseOf_33 : decode cX0_hasCauseOf 33 = .ok (.iconst 1, 1) := by decide +kernel
theorem dX0_hasCauseOf_34 : decode cX0_hasCauseOf 34 = .ok (.goto 4, 3) := by decide +kernel
theorem dX0_hasCauseOf_37 : decode cX0_hasCauseOf 37 = .ok (.iconst 0, 1) := by decide +kernel
theorem dX0_hasCauseOf_38 : decode cX0_hasCauseOf 38 = .ok (.ireturn, 1) := by decide +kernel
theorem dX0_toldTheSame_0 : decode cX0_toldTheSame 0 = .ok (.aload_n 0, 1) := by decide +kernel
theorem dX0_toldTheSame_1 : decode cX0_toldTheSame 1 = .ok (.getfield 24, 3) := by decide +kernel
theorem dX0_toldTheSame_4 : decode cX0_toldTheSame 4 = .ok (.aload_n 1, 1) := by decide +kernel
theorem dX0_toldTheSame_5 : decode cX0_toldTheSame 5 = .ok (.getfield 24, 3) := by decide +kernel
theorem dX0_toldTheSame_8 : decode cX0_toldTheSame 8 = .ok (.if_icmp .eq 5, 3) := by decide +kernel
theorem dX0_toldTheSame_11 : decode cX0_toldTheSame 11 = .ok (.iconst 0, 1) := by decide +kernel
theorem dX0_toldTheSame_12 : decode cX0_toldTheSame 12 = .ok (.ireturn, 1) := by decide +kernel
theorem dX0_toldTheSame_13 : decode cX0_toldTheSame 13 = .ok (.iconst 0, 1) := by decide +kernel
theorem dX0_toldTheSame_14 : decode cX0_toldTheSame 14 = .ok (.istore_n 2, 1) := by decide +kernel
theorem dX0_toldTheSame_15 : decode cX0_toldTheSame 15 = .ok (.iload_n 2, 1) := by decide +kernel
theorem dX0_toldTheSame_16 : decode cX0_toldTheSame 16 = .ok (.aload_n 0, 1) := by decide +kernel
theorem dX0_toldTheSame_17 : decode cX0_toldTheSame 17 = .ok (.getfield 24, 3) := by decide +kernel
theorem dX0_toldTheSame_20 : decode cX0_toldTheSame 20 = .ok (.if_icmp .ge 32, 3) := by decide +kernel
theorem dX0_toldTheSame_23 : decode cX0_toldTheSame 23 = .ok (.iload_n 2, 1) := by decide +kernel
theorem dX0_toldTheSame_24 : decode cX0_toldTheSame 24 = .ok (.bipush 40, 2) := by decide +kernel
theorem dX0_toldTheSame_26 : decode cX0_toldTheSame 26 = .ok (.if_icmp .ge 26, 3) := by decide +kernel
theorem dX0_toldTheSame_29 : decode cX0_toldTheSame 29 = .ok (.aload_n 0, 1) := by decide +kernel
theorem dX0_toldTheSame_30 : decode cX0_toldTheSame 30 = .ok (.getfield 21, 3) := by decide +kernel
theorem dX0_toldTheSame_33 : decode cX0_toldTheSame 33 = .ok (.iload_n 2, 1) := by decide +kernel
theorem dX0_toldTheSame_34 : decode cX0_toldTheSame 34 = .ok (.iaload, 1) := by decide +kernel
theorem dX0_toldTheSame_35 : decode cX0_toldTheSame 35 = .ok (.aload_n 1, 1) := by decide +kernel
theorem dX0_toldTheSame_36 : decode cX0_toldTheSame 36 = .ok (.getfield 21, 3) := by decide +kernel
theorem dX0_toldTheSame_39 : decode cX0_toldTheSame 39 = .ok (.iload_n 2, 1) := by decide +kernel
theorem dX0_toldTheSame_40 : decode cX0_toldTheSame 40 = .ok (.iaload, 1) := by decide +kernel
theorem dX0_toldTheSame_41 : decode cX0_toldTheSame 41 = .ok (.if_icmp .eq 5, 3) := by decide +kernel
theorem dX0_toldTheSame_44 : decode cX0_toldTheSame 44 = .ok (.iconst 0, 1) := by decide +kernel
theorem dX0_toldTheSame_45 : decode cX0_toldTheSame 45 = .ok (.ireturn, 1) := by decide +kernel
theorem dX0_toldTheSame_46 : decode cX0_toldTheSame 46 = .ok (.iinc 2 1, 3) := by decide +kernel
theorem dX0_toldTheSame_49 : decode cX0_toldTheSame 49 = .ok (.goto (-34), 3) := by decide +kernel
theorem dX0_toldTheSame_52 : decode cX0_toldTheSame 52 = .ok (.iconst 1, 1) := by decide +kernel
theorem dX0_toldTheSame_53 : decode cX0_toldTheSame 53 = .ok (.ireturn, 1) := by decide +kernel
theorem dX0_clear_0 : decode cX0_clear 0 = .ok (.aload_n 0, 1) := by decide +kernel
theorem dX0_clear_1 : decode cX0_clear 1 = .ok (.getfield 9, 3) := by decide +kernel
theorem dX0_clear_4 : decode cX0_clear 4 = .ok (.iconst 0, 1) := by decide +kernel
theorem dX0_clear_5 : decode cX0_clear 5 = .ok (.invokestatic 64, 3) := by decide +kernel
theorem dX0_clear_8 : decode cX0_clear 8 = .ok (.aload_n 0, 1) := by decide +kernel
theorem dX0_clear_9 : decode cX0_clear 9 = .ok (.getfield 15, 3) := by decide +kernel
theorem dX0_clear_12 : decode cX0_clear 12 = .ok (.iconst (-1), 1) := by decide +kernel
theorem dX0_clear_13 : decode cX0_clear 13 = .ok (.invokestatic 64, 3) := by decide +kernel
theorem dX0_clear_16 : decode cX0_clear 16 = .ok (.aload_n 0, 1) := by decide +kernel
theorem dX0_clear_17 : decode cX0_clear 17 = .ok (.getfield 18, 3) := by decide +kernel
theorem dX0_clear_20 : decode cX0_clear 20 = .ok (.iconst 0, 1) := by decide +kernel
theorem dX0_clear_21 : decode cX0_clear 21 = .ok (.invokestatic 64, 3) := by decide +kernel
theorem dX0_clear_24 : decode cX0_clear 24 = .ok (.aload_n 0, 1) := by decide +kernel
theorem dX0_clear_25 : decode cX0_clear 25 = .ok (.iconst 0, 1) := by decide +kernel
theorem dX0_clear_26 : decode cX0_clear 26 = .ok (.putfield 24, 3) := by decide +kernel
theorem dX0_clear_29 : decode cX0_clear 29 = .ok (.aload_n 0, 1) := by decide +kernel
theorem dX0_clear_30 : decode cX0_clear 30 = .ok (.iconst 0, 1) := by decide +kernel
theorem dX0_clear_31 : decode cX0_clear 31 = .ok (.putfield 28, 3) := by decide +kernel
theorem dX0_clear_34 : decode cX0_clear 34 = .ok (.aload_n 0, 1) := by decide +kernel
theorem dX0_clear_35 : decode cX0_clear 35 = .ok (.iconst 0, 1) := by decide +kernel
theorem dX0_clear_36 : decode cX0_clear 36 = .ok (.putfield 31, 3) := by decide +kernel
theorem dX0_clear_39 : decode cX0_clear 39 = .ok (.aload_n 0, 1) := by decide +kernel
theorem dX0_clear_40 : decode cX0_clear 40 = .ok (.iconst (-1), 1) := by decide +kernel
theorem dX0_clear_41 : decode cX0_clear 41 = .ok (.putfield 34, 3) := by decide +kernel
theorem dX0_clear_44 : decode cX0_clear 44 = .ok (.aload_n 0, 1) := by decide +kernel
theorem dX0_clear_45 : decode cX0_clear 45 = .ok (.iconst (-1), 1) := by decide +kernel
theorem dX0_clear_46 : decode cX0_clear 46 = .ok (.putfield 37, 3) := by decide +kernel
theorem dX0_clear_49 : decode cX0_clear 49 = .ok (.aload_n 0, 1) := by decide +kernel
theorem dX0_clear_50 : decode cX0_clear 50 = .ok (.iconst 0, 1) := by decide +kernel
theorem dX0_clear_51 : decode cX0_clear 51 = .ok (.putfield 40, 3) := by decide +kernel
theorem dX0_clear_54 : decode cX0_clear 54 = .ok (.aload_n 0, 1) := by decide +kernel
theorem dX0_clear_55 : decode cX0_clear 55 = .ok (.iconst (-1), 1) := by decide +kernel
theorem dX0_clear_56 : decode cX0_clear 56 = .ok (.putfield 43, 3) := by decide +kernel
theorem dX0_clear_59 : decode cX0_clear 59 = .ok (.aload_n 0, 1) := by decide +kernel
theorem dX0_clear_60 : decode cX0_clear 60 = .ok (.iconst 0, 1) := by decide +kernel
theorem dX0_clear_61 : decode cX0_clear 61 = .ok (.putfield 46, 3) := by decide +kernel
theorem dX0_clear_64 : decode cX0_clear 64 = .ok (.aload_n 0, 1) := by decide +kernel
theorem dX0_clear_65 : decode cX0_clear 65 = .ok (.iconst 0, 1) := by decide +kernel
theorem dX0_clear_66 : decode cX0_clear 66 = .ok (.putfield 49, 3) := by decide +kernel
theorem dX0_clear_69 : decode cX0_clear 69 = .ok (.return_, 1) := by decide +kernel
theorem dX0_doAct_0 : decode cX0_doAct 0 = .ok (.aload_n 1, 1) := by decide +kernel
theorem dX0_doAct_1 : decode cX0_doAct 1 = .ok (.getfield 70, 3) := by decide +kernel
theorem dX0_doAct_4 : decode cX0_doAct 4 = .ok (.iload_n 2, 1) := by decide +kernel
theorem dX0_doAct_5 : decode cX0_doAct 5 = .ok (.iaload, 1) := by decide +kernel
theorem dX0_doAct_6 : decode cX0_doAct 6 = .ok (.invokestatic 73, 3) := by decide +kernel
theorem dX0_doAct_9 : decode cX0_doAct 9 = .ok (.istore 4, 2) := by decide +kernel
theorem dX0_doAct_11 : decode cX0_doAct 11 = .ok (.aload_n 1, 1) := by decide +kernel
theorem dX0_doAct_12 : decode cX0_doAct 12 = .ok (.getfield 77, 3) := by decide +kernel
theorem dX0_doAct_15 : decode cX0_doAct 15 = .ok (.iload_n 2, 1) := by decide +kernel
theorem dX0_doAct_16 : decode cX0_doAct 16 = .ok (.iaload, 1) := by decide +kernel
theorem dX0_doAct_17 : decode cX0_doAct 17 = .ok (.invokestatic 73, 3) := by decide +kernel
theorem dX0_doAct_20 : decode cX0_doAct 20 = .ok (.istore 5, 2) := by decide +kernel
theorem dX0_doAct_22 : decode cX0_doAct 22 = .ok (.aload_n 1, 1) := by decide +kernel
theorem dX0_doAct_23 : decode cX0_doAct 23 = .ok (.getfield 80, 3) := by decide +kernel
theorem dX0_doAct_26 : decode cX0_doAct 26 = .ok (.iload_n 2, 1) := by decide +kernel
theorem dX0_doAct_27 : decode cX0_doAct 27 = .ok (.iaload, 1) := by decide +kernel
theorem dX0_doAct_28 : decode cX0_doAct 28 = .ok (.istore 6, 2) := by decide +kernel
theorem dX0_doAct_30 : decode cX0_doAct 30 = .ok (.aload_n 0, 1) := by decide +kernel
theorem dX0_doAct_31 : decode cX0_doAct 31 = .ok (.iload_n 2, 1) := by decide +kernel
theorem dX0_doAct_32 : decode cX0_doAct 32 = .ok (.iconst 1, 1) := by decide +kernel
theorem dX0_doAct_33 : decode cX0_doAct 33 = .ok (.iadd, 1) := by decide +kernel
theorem dX0_doAct_34 : decode cX0_doAct 34 = .ok (.putfield 49, 3) := by decide +kernel
theorem dX0_doAct_37 : decode cX0_doAct 37 = .ok (.aload_n 1, 1) := by decide +kernel
theorem dX0_doAct_38 : decode cX0_doAct 38 = .ok (.getfield 83, 3) := by decide +kernel
theorem dX0_doAct_41 : decode cX0_doAct 41 = .ok (.iload_n 2, 1) := by decide +kernel
theorem dX0_doAct_42 : decode cX0_doAct 42 = .ok (.iaload, 1) := by decide +kernel
theorem dX0_doAct_43 : decode cX0_doAct 43 = .ok (.tableswitch 348 0 13 #[69, 80, 93, 105, 145, 185, 225, 237, 249, 280, 311, 320, 334, 348], 69) := by decide +kernel
theorem dX0_doAct_112 : decode cX0_doAct 112 = .ok (.aload_n 0, 1) := by decide +kernel
theorem dX0_doAct_113 : decode cX0_doAct 113 = .ok (.iload 4, 2) := by decide +kernel
theorem dX0_doAct_115 : decode cX0_doAct 115 = .ok (.iload_n 2, 1) := by decide +kernel
theorem dX0_doAct_116 : decode cX0_doAct 116 = .ok (.aload_n 3, 1) := by decide +kernel
theorem dX0_doAct_117 : decode cX0_doAct 117 = .ok (.invokevirtual 86, 3) := by decide +kernel
theorem dX0_doAct_120 : decode cX0_doAct 120 = .ok (.goto 276, 3) := by decide +kernel
theorem dX0_doAct_123 : decode cX0_doAct 123 = .ok (.aload_n 0, 1) := by decide +kernel
theorem dX0_doAct_124 : decode cX0_doAct 124 = .ok (.iload 4, 2) := by decide +kernel
theorem dX0_doAct_126 : decode cX0_doAct 126 = .ok (.iload 6, 2) := by decide +kernel
theorem dX0_doAct_128 : decode cX0_doAct 128 = .ok (.iload_n 2, 1) := by decide +kernel
theorem dX0_doAct_129 : decode cX0_doAct 129 = .ok (.iconst 0, 1) := by decide +kernel
theorem dX0_doAct_130 : decode cX0_doAct 130 = .ok (.invokevirtual 90, 3) := by decide +kernel
theorem dX0_doAct_133 : decode cX0_doAct 133 = .ok (.goto 263, 3) := by decide +kernel
theorem dX0_doAct_136 : decode cX0_doAct 136 = .ok (.aload_n 0, 1) := by decide +kernel
theorem dX0_doAct_137 : decode cX0_doAct 137 = .ok (.iload 5, 2) := by decide +kernel
theorem dX0_doAct_139 : decode cX0_doAct 139 = .ok (.iload 4, 2) := by decide +kernel
theorem dX0_doAct_141 : decode cX0_doAct 141 = .ok (.iconst 0, 1) := by decide +kernel
theorem dX0_doAct_142 : decode cX0_doAct 142 = .ok (.invokevirtual 94, 3) := by decide +kernel
theorem dX0_doAct_145 : decode cX0_doAct 145 = .ok (.goto 251, 3) := by decide +kernel
theorem dX0_doAct_148 : decode cX0_doAct 148 = .ok (.aload_n 0, 1) := by decide +kernel
theorem dX0_doAct_149 : decode cX0_doAct 149 = .ok (.iload 4, 2) := by decide +kernel
theorem dX0_doAct_151 : decode cX0_doAct 151 = .ok (.aload_n 0, 1) := by decide +kernel
theorem dX0_doAct_152 : decode cX0_doAct 152 = .ok (.getfield 9, 3) := by decide +kernel
theorem dX0_doAct_155 : decode cX0_doAct 155 = .ok (.iload 4, 2) := by decide +kernel
theorem dX0_doAct_157 : decode cX0_doAct 157 = .ok (.iaload, 1) := by decide +kernel
theorem dX0_doAct_158 : decode cX0_doAct 158 = .ok (.aload_n 0, 1) := by decide +kernel
theorem dX0_doAct_159 : decode cX0_doAct 159 = .ok (.getfield 9, 3) := by decide +kernel
theorem dX0_doAct_162 : decode cX0_doAct 162 = .ok (.iload 5, 2) := by decide +kernel
theorem dX0_doAct_164 : decode cX0_doAct 164 = .ok (.iaload, 1) := by decide +kernel
theorem dX0_doAct_165 : decode cX0_doAct 165 = .ok (.iadd, 1) := by decide +kernel
theorem dX0_doAct_166 : decode cX0_doAct 166 = .ok (.iload_n 2, 1) := by decide +kernel
theorem dX0_doAct_167 : decode cX0_doAct 167 = .ok (.aload_n 0, 1) := by decide +kernel
theorem dX0_doAct_168 : decode cX0_doAct 168 = .ok (.getfield 18, 3) := by decide +kernel
theorem dX0_doAct_171 : decode cX0_doAct 171 = .ok (.iload 4, 2) := by decide +kernel
theorem dX0_doAct_173 : decode cX0_doAct 173 = .ok (.iaload, 1) := by decide +kernel
theorem dX0_doAct_174 : decode cX0_doAct 174 = .ok (.aload_n 0, 1) := by decide +kernel
theorem dX0_doAct_175 : decode cX0_doAct 175 = .ok (.getfield 18, 3) := by decide +kernel
theorem dX0_doAct_178 : decode cX0_doAct 178 = .ok (.iload 5, 2) := by decide +kernel
theorem dX0_doAct_180 : decode cX0_doAct 180 = .ok (.iaload, 1) := by decide +kernel
theorem dX0_doAct_181 : decode cX0_doAct 181 = .ok (.ior, 1) := by decide +kernel
theorem dX0_doAct_182 : decode cX0_doAct 182 = .ok (.invokevirtual 90, 3) := by decide +kernel
theorem dX0_doAct_185 : decode cX0_doAct 185 = .ok (.goto 211, 3) := by decide +kernel
theorem dX0_doAct_188 : decode cX0_doAct 188 = .ok (.aload_n 0, 1) := by decide +kernel
theorem dX0_doAct_189 : decode cX0_doAct 189 = .ok (.iload 4, 2) := by decide +kernel
theorem dX0_doAct_191 : decode cX0_doAct 191 = .ok (.aload_n 0, 1) := by decide +kernel
theorem dX0_doAct_192 : decode cX0_doAct 192 = .ok (.getfield 9, 3) := by decide +kernel
theorem dX0_doAct_195 : decode cX0_doAct 195 = .ok (.iload 4, 2) := by decide +kernel
theorem dX0_doAct_197 : decode cX0_doAct 197 = .ok (.iaload, 1) := by decide +kernel
theorem dX0_doAct_198 : decode cX0_doAct 198 = .ok (.aload_n 0, 1) := by decide +kernel
theorem dX0_doAct_199 : decode cX0_doAct 199 = .ok (.getfield 9, 3) := by decide +kernel
theorem dX0_doAct_202 : decode cX0_doAct 202 = .ok (.iload 5, 2) := by decide +kernel
theorem dX0_doAct_204 : decode cX0_doAct 204 = .ok (.iaload, 1) := by decide +kernel
theorem dX0_doAct_205 : decode cX0_doAct 205 = .ok (.isub, 1) := by decide +kernel
theorem dX0_doAct_206 : decode cX0_doAct 206 = .ok (.iload_n 2, 1) := by decide +kernel
theorem dX0_doAct_207 : decode cX0_doAct 207 = .ok (.aload_n 0, 1) := by decide +kernel
theorem dX0_doAct_208 : decode cX0_doAct 208 = .ok (.getfield 18, 3) := by decide +kernel
theorem dX0_doAct_211 : decode cX0_doAct 211 = .ok (.iload 4, 2) := by decide +kernel
theorem dX0_doAct_213 : decode cX0_doAct 213 = .ok (.iaload, 1) := by decide +kernel
theorem dX0_doAct_214 : decode cX0_doAct 214 = .ok (.aload_n 0, 1) := by decide +kernel
theorem dX0_doAct_215 : decode cX0_doAct 215 = .ok (.getfield 18, 3) := by decide +kernel
theorem dX0_doAct_218 : decode cX0_doAct 218 = .ok (.iload 5, 2) := by decide +kernel
theorem dX0_doAct_220 : decode cX0_doAct 220 = .ok (.iaload, 1) := by decide +kernel
theorem dX0_doAct_221 : decode cX0_doAct 221 = .ok (.ior, 1) := by decide +kernel
theorem dX0_doAct_222 : decode cX0_doAct 222 = .ok (.invokevirtual 90, 3) := by decide +kernel
theorem dX0_doAct_225 : decode cX0_doAct 225 = .ok (.goto 171, 3) := by decide +kernel
theorem dX0_doAct_228 : decode cX0_doAct 228 = .ok (.aload_n 0, 1) := by decide +kernel
theorem dX0_doAct_229 : decode cX0_doAct 229 = .ok (.iload 4, 2) := by decide +kernel
theorem dX0_doAct_231 : decode cX0_doAct 231 = .ok (.aload_n 0, 1) := by decide +kernel
theorem dX0_doAct_232 : decode cX0_doAct 232 = .ok (.getfield 9, 3) := by decide +kernel
theorem dX0_doAct_235 : decode cX0_doAct 235 = .ok (.iload 4, 2) := by decide +kernel
theorem dX0_doAct_237 : decode cX0_doAct 237 = .ok (.iaload, 1) := by decide +kernel
theorem dX0_doAct_238 : decode cX0_doAct 238 = .ok (.aload_n 0, 1) := by decide +kernel
theorem dX0_doAct_239 : decode cX0_doAct 239 = .ok (.getfield 9, 3) := by decide +kernel
theorem dX0_doAct_242 : decode cX0_doAct 242 = .ok (.iload 5, 2) := by decide +kernel
theorem dX0_doAct_244 : decode cX0_doAct 244 = .ok (.iaload, 1) := by decide +kernel
theorem dX0_doAct_245 : decode cX0_doAct 245 = .ok (.imul, 1) := by decide +kernel
theorem dX0_doAct_246 : decode cX0_doAct 246 = .ok (.iload_n 2, 1) := by decide +kernel
theorem dX0_doAct_247 : decode cX0_doAct 247 = .ok (.aload_n 0, 1) := by decide +kernel
theorem dX0_doAct_248 : decode cX0_doAct 248 = .ok (.getfield 18, 3) := by decide +kernel
theorem dX0_doAct_251 : decode cX0_doAct 251 = .ok (.iload 4, 2) := by decide +kernel
theorem dX0_doAct_253 : decode cX0_doAct 253 = .ok (.iaload, 1) := by decide +kernel
theorem dX0_doAct_254 : decode cX0_doAct 254 = .ok (.aload_n 0, 1) := by decide +kernel
theorem dX0_doAct_255 : decode cX0_doAct 255 = .ok (.getfield 18, 3) := by decide +kernel
theorem dX0_doAct_258 : decode cX0_doAct 258 = .ok (.iload 5, 2) := by decide +kernel
theorem dX0_doAct_260 : decode cX0_doAct 260 = .ok (.iaload, 1) := by decide +kernel
theorem dX0_doAct_261 : decode cX0_doAct 261 = .ok (.ior, 1) := by decide +kernel
theorem dX0_doAct_262 : decode cX0_doAct 262 = .ok (.invokevirtual 90, 3) := by decide +kernel
theorem dX0_doAct_265 : decode cX0_doAct 265 = .ok (.goto 131, 3) := by decide +kernel
theorem dX0_doAct_268 : decode cX0_doAct 268 = .ok (.aload_n 0, 1) := by decide +kernel
theorem dX0_doAct_269 : decode cX0_doAct 269 = .ok (.iload 4, 2) := by decide +kernel
theorem dX0_doAct_271 : decode cX0_doAct 271 = .ok (.iload 5, 2) := by decide +kernel
theorem dX0_doAct_273 : decode cX0_doAct 273 = .ok (.iload_n 2, 1) := by decide +kernel
theorem dX0_doAct_274 : decode cX0_doAct 274 = .ok (.invokevirtual 98, 3) := by decide +kernel
theorem dX0_doAct_277 : decode cX0_doAct 277 = .ok (.goto 119, 3) := by decide +kernel
theorem dX0_doAct_280 : decode cX0_doAct 280 = .ok (.aload_n 0, 1) := by decide +kernel
theorem dX0_doAct_281 : decode cX0_doAct 281 = .ok (.iload 4, 2) := by decide +kernel
theorem dX0_doAct_283 : decode cX0_doAct 283 = .ok (.iload 5, 2) := by decide +kernel
theorem dX0_doAct_285 : decode cX0_doAct 285 = .ok (.iload_n 2, 1) := by decide +kernel
theorem dX0_doAct_286 : decode cX0_doAct 286 = .ok (.invokevirtual 101, 3) := by decide +kernel
theorem dX0_doAct_289 : decode cX0_doAct 289 = .ok (.goto 107, 3) := by decide +kernel
theorem dX0_doAct_292 : decode cX0_doAct 292 = .ok (.aload_n 0, 1) := by decide +kernel
theorem dX0_doAct_293 : decode cX0_doAct 293 = .ok (.aload_n 0, 1) := by decide +kernel
theorem dX0_doAct_294 : decode cX0_doAct 294 = .ok (.getfield 9, 3) := by decide +kernel
theorem dX0_doAct_297 : decode cX0_doAct 297 = .ok (.iload 4, 2) := by decide +kernel
theorem dX0_doAct_299 : decode cX0_doAct 299 = .ok (.iaload, 1) := by decide +kernel
theorem dX0_doAct_300 : decode cX0_doAct 300 = .ok (.aload_n 0, 1) := by decide +kernel
theorem dX0_doAct_301 : decode cX0_doAct 301 = .ok (.getfield 9, 3) := by decide +kernel
theorem dX0_doAct_304 : decode cX0_doAct 304 = .ok (.iload 5, 2) := by decide +kernel
theorem dX0_doAct_306 : decode cX0_doAct 306 = .ok (.iaload, 1) := by decide +kernel
theorem dX0_doAct_307 : decode cX0_doAct 307 = .ok (.if_icmp .ge 7, 3) := by decide +kernel
theorem dX0_doAct_310 : decode cX0_doAct 310 = .ok (.iconst 1, 1) := by decide +kernel
theorem dX0_doAct_311 : decode cX0_doAct 311 = .ok (.goto 4, 3) := by decide +kernel
theorem dX0_doAct_314 : decode cX0_doAct 314 = .ok (.iconst 0, 1) := by decide +kernel
theorem dX0_doAct_315 : decode cX0_doAct 315 = .ok (.iload 6, 2) := by decide +kernel
theorem dX0_doAct_317 : decode cX0_doAct 317 = .ok (.invokevirtual 104, 3) := by decide +kernel
theorem dX0_doAct_320 : decode cX0_doAct 320 = .ok (.goto 76, 3) := by decide +kernel
theorem dX0_doAct_323 : decode cX0_doAct 323 = .ok (.aload_n 0, 1) := by decide +kernel
theorem dX0_doAct_324 : decode cX0_doAct 324 = .ok (.aload_n 0, 1) := by decide +kernel
theorem dX0_doAct_325 : decode cX0_doAct 325 = .ok (.getfield 9, 3) := by decide +kernel
theorem dX0_doAct_328 : decode cX0_doAct 328 = .ok (.iload 4, 2) := by decide +kernel
theorem dX0_doAct_330 : decode cX0_doAct 330 = .ok (.iaload, 1) := by decide +kernel
theorem dX0_doAct_331 : decode cX0_doAct 331 = .ok (.aload_n 0, 1) := by decide +kernel
theorem dX0_doAct_332 : decode cX0_doAct 332 = .ok (.getfield 9, 3) := by decide +kernel
theorem dX0_doAct_335 : decode cX0_doAct 335 = .ok (.iload 5, 2) := by decide +kernel
theorem dX0_doAct_337 : decode cX0_doAct 337 = .ok (.iaload, 1) := by decide +kernel
theorem dX0_doAct_338 : decode cX0_doAct 338 = .ok (.if_icmp .ne 7, 3) := by decide +kernel
theorem dX0_doAct_341 : decode cX0_doAct 341 = .ok (.iconst 1, 1) := by decide +kernel
theorem dX0_doAct_342 : decode cX0_doAct 342 = .ok (.goto 4, 3) := by decide +kernel
theorem dX0_doAct_345 : decode cX0_doAct 345 = .ok (.iconst 0, 1) := by decide +kernel
theorem dX0_doAct_346 : decode cX0_doAct 346 = .ok (.iload 6, 2) := by decide +kernel
theorem dX0_doAct_348 : decode cX0_doAct 348 = .ok (.invokevirtual 104, 3) := by decide +kernel
theorem dX0_doAct_351 : decode cX0_doAct 351 = .ok (.goto 45, 3) := by decide +kernel
theorem dX0_doAct_354 : decode cX0_doAct 354 = .ok (.aload_n 0, 1) := by decide +kernel
theorem dX0_doAct_355 : decode cX0_doAct 355 = .ok (.iload 6, 2) := by decide +kernel
theorem dX0_doAct_357 : decode cX0_doAct 357 = .ok (.putfield 49, 3) := by decide +kernel
theorem dX0_doAct_360 : decode cX0_doAct 360 = .ok (.goto 36, 3) := by decide +kernel
theorem dX0_doAct_363 : decode cX0_doAct 363 = .ok (.aload_n 0, 1) := by decide +kernel
theorem dX0_doAct_364 : decode cX0_doAct 364 = .ok (.iload 4, 2) := by decide +kernel
theorem dX0_doAct_366 : decode cX0_doAct 366 = .ok (.iload_n 2, 1) := by decide +kernel
theorem dX0_doAct_367 : decode cX0_doAct 367 = .ok (.aload_n 1, 1) := by decide +kernel
theorem dX0_doAct_368 : decode cX0_doAct 368 = .ok (.getfield 55, 3) := by decide +kernel
theorem dX0_doAct_371 : decode cX0_doAct 371 = .ok (.invokevirtual 108, 3) := by decide +kernel
theorem dX0_doAct_374 : decode cX0_doAct 374 = .ok (.goto 22, 3) := by decide +kernel
theorem dX0_doAct_377 : decode cX0_doAct 377 = .ok (.aload_n 0, 1) := by decide +kernel
theorem dX0_doAct_378 : decode cX0_doAct 378 = .ok (.aload_n 0, 1) := by decide +kernel
theorem dX0_doAct_379 : decode cX0_doAct 379 = .ok (.getfield 9, 3) := by decide +kernel
theorem dX0_doAct_382 : decode cX0_doAct 382 = .ok (.iload 4, 2) := by decide +kernel
theorem dX0_doAct_384 : decode cX0_doAct 384 = .ok (.iaload, 1) := by decide +kernel
theorem dX0_doAct_385 : decode cX0_doAct 385 = .ok (.invokevirtual 111, 3) := by decide +kernel
theorem dX0_doAct_388 : decode cX0_doAct 388 = .ok (.goto 8, 3) := by decide +kernel
theorem dX0_doAct_391 : decode cX0_doAct 391 = .ok (.aload_n 0, 1) := by decide +kernel
theorem dX0_doAct_392 : decode cX0_doAct 392 = .ok (.iconst 0, 1) := by decide +kernel
theorem dX0_doAct_393 : decode cX0_doAct 393 = .ok (.putfield 34, 3) := by decide +kernel
theorem dX0_doAct_396 : decode cX0_doAct 396 = .ok (.aload_n 0, 1) := by decide +kernel
theorem dX0_doAct_397 : decode cX0_doAct 397 = .ok (.invokevirtual 115, 3) := by decide +kernel
theorem dX0_doAct_400 : decode cX0_doAct 400 = .ok (.ifCond .ne 13, 3) := by decide +kernel
theorem dX0_doAct_403 : decode cX0_doAct 403 = .ok (.aload_n 0, 1) := by decide +kernel
theorem dX0_doAct_404 : decode cX0_doAct 404 = .ok (.dup, 1) := by decide +kernel
theorem dX0_doAct_405 : decode cX0_doAct 405 = .ok (.getfield 31, 3) := by decide +kernel
theorem dX0_doAct_408 : decode cX0_doAct 408 = .ok (.iconst 1, 1) := by decide +kernel
theorem dX0_doAct_409 : decode cX0_doAct 409 = .ok (.iadd, 1) := by decide +kernel
theorem dX0_doAct_410 : decode cX0_doAct 410 = .ok (.putfield 31, 3) := by decide +kernel
theorem dX0_doAct_413 : decode cX0_doAct 413 = .ok (.return_, 1) := by decide +kernel
theorem dX0_readByte_0 : decode cX0_readByte 0 = .ok (.aload_n 3, 1) := by decide +kernel
theorem dX0_readByte_1 : decode cX0_readByte 1 = .ok (.aload_n 0, 1) := by decide +kernel
theorem dX0_readByte_2 : decode cX0_readByte 2 = .ok (.getfield 28, 3) := by decide +kernel
theorem dX0_readByte_5 : decode cX0_readByte 5 = .ok (.invokevirtual 119, 3) := by decide +kernel
theorem dX0_readByte_8 : decode cX0_readByte 8 = .ok (.istore 4, 2) := by decide +kernel
theorem dX0_readByte_10 : decode cX0_readByte 10 = .ok (.iload 4, 2) := by decide +kernel
theorem dX0_readByte_12 : decode cX0_readByte 12 = .ok (.iconst (-1), 1) := by decide +kernel
theorem dX0_readByte_13 : decode cX0_readByte 13 = .ok (.if_icmp .ne 14, 3) := by decide +kernel
theorem dX0_readByte_16 : decode cX0_readByte 16 = .ok (.aload_n 0, 1) := by decide +kernel
theorem dX0_readByte_17 : decode cX0_readByte 17 = .ok (.iload_n 1, 1) := by decide +kernel
theorem dX0_readByte_18 : decode cX0_readByte 18 = .ok (.iconst (-1), 1) := by decide +kernel
theorem dX0_readByte_19 : decode cX0_readByte 19 = .ok (.iload_n 2, 1) := by decide +kernel
theorem dX0_readByte_20 : decode cX0_readByte 20 = .ok (.iconst 0, 1) := by decide +kernel
theorem dX0_readByte_21 : decode cX0_readByte 21 = .ok (.invokevirtual 90, 3) := by decide +kernel
theorem dX0_readByte_24 : decode cX0_readByte 24 = .ok (.goto 27, 3) := by decide +kernel
theorem dX0_readByte_27 : decode cX0_readByte 27 = .ok (.aload_n 0, 1) := by decide +kernel
theorem dX0_readByte_28 : decode cX0_readByte 28 = .ok (.iload_n 1, 1) := by decide +kernel
theorem dX0_readByte_29 : decode cX0_readByte 29 = .ok (.iload 4, 2) := by decide +kernel
theorem dX0_readByte_31 : decode cX0_readByte 31 = .ok (.iload_n 2, 1) := by decide +kernel
theorem dX0_readByte_32 : decode cX0_readByte 32 = .ok (.iconst 1, 1) := by decide +kernel
theorem dX0_readByte_33 : decode cX0_readByte 33 = .ok (.aload_n 0, 1) := by decide +kernel
theorem dX0_readByte_34 : decode cX0_readByte 34 = .ok (.getfield 28, 3) := by decide +kernel
theorem dX0_readByte_37 : decode cX0_readByte 37 = .ok (.ishl, 1) := by decide +kernel
theorem dX0_readByte_38 : decode cX0_readByte 38 = .ok (.invokevirtual 90, 3) := by decide +kernel
theorem dX0_readByte_41 : decode cX0_readByte 41 = .ok (.aload_n 0, 1) := by decide +kernel
theorem dX0_readByte_42 : decode cX0_readByte 42 = .ok (.dup, 1) := by decide +kernel
theorem dX0_readByte_43 : decode cX0_readByte 43 = .ok (.getfield 28, 3) := by decide +kernel
theorem dX0_readByte_46 : decode cX0_readByte 46 = .ok (.iconst 1, 1) := by decide +kernel
theorem dX0_readByte_47 : decode cX0_readByte 47 = .ok (.iadd, 1) := by decide +kernel
theorem dX0_readByte_48 : decode cX0_readByte 48 = .ok (.putfield 28, 3) := by decide +kernel
theorem dX0_readByte_51 : decode cX0_readByte 51 = .ok (.return_, 1) := by decide +kernel
theorem dX0_load_0 : decode cX0_load 0 = .ok (.aload_n 0, 1) := by decide +kernel
theorem dX0_load_1 : decode cX0_load 1 = .ok (.getfield 9, 3) := by decide +kernel
theorem dX0_load_4 : decode cX0_load 4 = .ok (.iload_n 2, 1) := by decide +kernel
theorem dX0_load_5 : decode cX0_load 5 = .ok (.iaload, 1) := by decide +kernel
theorem dX0_load_6 : decode cX0_load 6 = .ok (.invokestatic 124, 3) := by decide +kernel
theorem dX0_load_9 : decode cX0_load 9 = .ok (.ifCond .eq 26, 3) := by decide +kernel
theorem dX0_load_12 : decode cX0_load 12 = .ok (.aload_n 0, 1) := by decide +kernel
theorem dX0_load_13 : decode cX0_load 13 = .ok (.bipush 8, 2) := by decide +kernel
theorem dX0_load_15 : decode cX0_load 15 = .ok (.aload_n 0, 1) := by decide +kernel
theorem dX0_load_16 : decode cX0_load 16 = .ok (.getfield 9, 3) := by decide +kernel
theorem dX0_load_19 : decode cX0_load 19 = .ok (.iload_n 2, 1) := by decide +kernel
theorem dX0_load_20 : decode cX0_load 20 = .ok (.iaload, 1) := by decide +kernel
theorem dX0_load_21 : decode cX0_load 21 = .ok (.iadd, 1) := by decide +kernel
theorem dX0_load_22 : decode cX0_load 22 = .ok (.iload_n 1, 1) := by decide +kernel
theorem dX0_load_23 : decode cX0_load 23 = .ok (.aload_n 0, 1) := by decide +kernel
theorem dX0_load_24 : decode cX0_load 24 = .ok (.getfield 18, 3) := by decide +kernel
theorem dX0_load_27 : decode cX0_load 27 = .ok (.iload_n 2, 1) := by decide +kernel
theorem dX0_load_28 : decode cX0_load 28 = .ok (.iaload, 1) := by decide +kernel
theorem dX0_load_29 : decode cX0_load 29 = .ok (.invokevirtual 94, 3) := by decide +kernel
theorem dX0_load_32 : decode cX0_load 32 = .ok (.goto 10, 3) := by decide +kernel
theorem dX0_load_35 : decode cX0_load 35 = .ok (.aload_n 0, 1) := by decide +kernel
theorem dX0_load_36 : decode cX0_load 36 = .ok (.iconst 1, 1) := by decide +kernel
theorem dX0_load_37 : decode cX0_load 37 = .ok (.iload_n 3, 1) := by decide +kernel
theorem dX0_load_38 : decode cX0_load 38 = .ok (.iload_n 2, 1) := by decide +kernel
theorem dX0_load_39 : decode cX0_load 39 = .ok (.invokevirtual 128, 3) := by decide +kernel
theorem dX0_load_42 : decode cX0_load 42 = .ok (.return_, 1) := by decide +kernel
theorem dX0_store_0 : decode cX0_store 0 = .ok (.aload_n 0, 1) := by decide +kernel
theorem dX0_store_1 : decode cX0_store 1 = .ok (.getfield 9, 3) := by decide +kernel
theorem dX0_store_4 : decode cX0_store 4 = .ok (.iload_n 1, 1) := by decide +kernel
theorem dX0_store_5 : decode cX0_store 5 = .ok (.iaload, 1) := by decide +kernel
theorem dX0_store_6 : decode cX0_store 6 = .ok (.invokestatic 124, 3) := by decide +kernel
theorem dX0_store_9 : decode cX0_store 9 = .ok (.ifCond .eq 26, 3) := by decide +kernel
theorem dX0_store_12 : decode cX0_store 12 = .ok (.aload_n 0, 1) := by decide +kernel
theorem dX0_store_13 : decode cX0_store 13 = .ok (.iload_n 2, 1) := by decide +kernel
theorem dX0_store_14 : decode cX0_store 14 = .ok (.bipush 8, 2) := by decide +kernel
theorem dX0_store_16 : decode cX0_store 16 = .ok (.aload_n 0, 1) := by decide +kernel
theorem dX0_store_17 : decode cX0_store 17 = .ok (.getfield 9, 3) := by decide +kernel
theorem dX0_store_20 : decode cX0_store 20 = .ok (.iload_n 1, 1) := by decide +kernel
theorem dX0_store_21 : decode cX0_store 21 = .ok (.iaload, 1) := by decide +kernel
theorem dX0_store_22 : decode cX0_store 22 = .ok (.iadd, 1) := by decide +kernel
theorem dX0_store_23 : decode cX0_store 23 = .ok (.aload_n 0, 1) := by decide +kernel
theorem dX0_store_24 : decode cX0_store 24 = .ok (.getfield 18, 3) := by decide +kernel
theorem dX0_store_27 : decode cX0_store 27 = .ok (.iload_n 1, 1) := by decide +kernel
theorem dX0_store_28 : decode cX0_store 28 = .ok (.iaload, 1) := by decide +kernel
theorem dX0_store_29 : decode cX0_store 29 = .ok (.invokevirtual 94, 3) := by decide +kernel
theorem dX0_store_32 : decode cX0_store 32 = .ok (.goto 10, 3) := by decide +kernel
theorem dX0_store_35 : decode cX0_store 35 = .ok (.aload_n 0, 1) := by decide +kernel
theorem dX0_store_36 : decode cX0_store 36 = .ok (.iconst 2, 1) := by decide +kernel
theorem dX0_store_37 : decode cX0_store 37 = .ok (.iload_n 3, 1) := by decide +kernel
theorem dX0_store_38 : decode cX0_store 38 = .ok (.iload_n 1, 1) := by decide +kernel
theorem dX0_store_39 : decode cX0_store 39 = .ok (.invokevirtual 128, 3) := by decide +kernel
theorem dX0_store_42 : decode cX0_store 42 = .ok (.return_, 1) := by decide +kernel
theorem dX0_jump_0 : decode cX0_jump 0 = .ok (.aload_n 0, 1) := by decide +kernel
theorem dX0_jump_1 : decode cX0_jump 1 = .ok (.getfield 9, 3) := by decide +kernel
theorem dX0_jump_4 : decode cX0_jump 4 = .ok (.iload_n 1, 1) := by decide +kernel
theorem dX0_jump_5 : decode cX0_jump 5 = .ok (.iaload, 1) := by decide +kernel
theorem dX0_jump_6 : decode cX0_jump 6 = .ok (.ifCond .lt 26, 3) := by decide +kernel
theorem dX0_jump_9 : decode cX0_jump 9 = .ok (.aload_n 0, 1) := by decide +kernel
theorem dX0_jump_10 : decode cX0_jump 10 = .ok (.getfield 9, 3) := by decide +kernel
theorem dX0_jump_13 : decode cX0_jump 13 = .ok (.iload_n 1, 1) := by decide +kernel
theorem dX0_jump_14 : decode cX0_jump 14 = .ok (.iaload, 1) := by decide +kernel
theorem dX0_jump_15 : decode cX0_jump 15 = .ok (.iload_n 3, 1) := by decide +kernel
theorem dX0_jump_16 : decode cX0_jump 16 = .ok (.if_icmp .ge 16, 3) := by decide +kernel
theorem dX0_jump_19 : decode cX0_jump 19 = .ok (.aload_n 0, 1) := by decide +kernel
theorem dX0_jump_20 : decode cX0_jump 20 = .ok (.aload_n 0, 1) := by decide +kernel
theorem dX0_jump_21 : decode cX0_jump 21 = .ok (.getfield 9, 3) := by decide +kernel
theorem dX0_jump_24 : decode cX0_jump 24 = .ok (.iload_n 1, 1) := by decide +kernel
theorem dX0_jump_25 : decode cX0_jump 25 = .ok (.iaload, 1) := by decide +kernel
theorem dX0_jump_26 : decode cX0_jump 26 = .ok (.putfield 49, 3) := by decide +kernel
theorem dX0_jump_29 : decode cX0_jump 29 = .ok (.goto 10, 3) := by decide +kernel
theorem dX0_jump_32 : decode cX0_jump 32 = .ok (.aload_n 0, 1) := by decide +kernel
theorem dX0_jump_33 : decode cX0_jump 33 = .ok (.iconst 3, 1) := by decide +kernel
theorem dX0_jump_34 : decode cX0_jump 34 = .ok (.iload_n 2, 1) := by decide +kernel
theorem dX0_jump_35 : decode cX0_jump 35 = .ok (.iload_n 1, 1) := by decide +kernel
theorem dX0_jump_36 : decode cX0_jump 36 = .ok (.invokevirtual 128, 3) := by decide +kernel
theorem dX0_jump_39 : decode cX0_jump 39 = .ok (.return_, 1) := by decide +kernel
theorem dX0_goIf_0 : decode cX0_goIf 0 = .ok (.iload_n 1, 1) := by decide +kernel
theorem dX0_goIf_1 : decode cX0_goIf 1 = .ok (.ifCond .eq 8, 3) := by decide +kernel
theorem dX0_goIf_4 : decode cX0_goIf 4 = .ok (.aload_n 0, 1) := by decide +kernel
theorem dX0_goIf_5 : decode cX0_goIf 5 = .ok (.iload_n 2, 1) := by decide +kernel
theorem dX0_goIf_6 : decode cX0_goIf 6 = .ok (.putfield 49, 3) := by decide +kernel
theorem dX0_goIf_9 : decode cX0_goIf 9 = .ok (.return_, 1) := by decide +kernel
theorem dX0_tell_0 : decode cX0_tell 0 = .ok (.aload_n 0, 1) := by decide +kernel
theorem dX0_tell_1 : decode cX0_tell 1 = .ok (.getfield 24, 3) := by decide +kernel
theorem dX0_tell_4 : decode cX0_tell 4 = .ok (.bipush 40, 2) := by decide +kernel
theorem dX0_tell_6 : decode cX0_tell 6 = .ok (.if_icmp .ge 13, 3) := by decide +kernel
theorem dX0_tell_9 : decode cX0_tell 9 = .ok (.aload_n 0, 1) := by decide +kernel
theorem dX0_tell_10 : decode cX0_tell 10 = .ok (.getfield 21, 3) := by decide +kernel
theorem dX0_tell_13 : decode cX0_tell 13 = .ok (.aload_n 0, 1) := by decide +kernel
theorem dX0_tell_14 : decode cX0_tell 14 = .ok (.getfield 24, 3) := by decide +kernel
theorem dX0_tell_17 : decode cX0_tell 17 = .ok (.iload_n 1, 1) := by decide +kernel
theorem dX0_tell_18 : decode cX0_tell 18 = .ok (.iastore, 1) := by decide +kernel
theorem dX0_tell_19 : decode cX0_tell 19 = .ok (.aload_n 0, 1) := by decide +kernel
theorem dX0_tell_20 : decode cX0_tell 20 = .ok (.dup, 1) := by decide +kernel
theorem dX0_tell_21 : decode cX0_tell 21 = .ok (.getfield 24, 3) := by decide +kernel
theorem dX0_tell_24 : decode cX0_tell 24 = .ok (.iconst 1, 1) := by decide +kernel
theorem dX0_tell_25 : decode cX0_tell 25 = .ok (.iadd, 1) := by decide +kernel
theorem dX0_tell_26 : decode cX0_tell 26 = .ok (.putfield 24, 3) := by decide +kernel
theorem dX0_tell_29 : decode cX0_tell 29 = .ok (.return_, 1) := by decide +kernel
theorem dX0_make_0 : decode cX0_make 0 = .ok (.aload_n 0, 1) := by decide +kernel
theorem dX0_make_1 : decode cX0_make 1 = .ok (.getfield 9, 3) := by decide +kernel
theorem dX0_make_4 : decode cX0_make 4 = .ok (.iload_n 1, 1) := by decide +kernel
theorem dX0_make_5 : decode cX0_make 5 = .ok (.iload_n 2, 1) := by decide +kernel
theorem dX0_make_6 : decode cX0_make 6 = .ok (.iastore, 1) := by decide +kernel
theorem dX0_make_7 : decode cX0_make 7 = .ok (.aload_n 0, 1) := by decide +kernel
theorem dX0_make_8 : decode cX0_make 8 = .ok (.getfield 15, 3) := by decide +kernel
theorem dX0_make_11 : decode cX0_make 11 = .ok (.iload_n 1, 1) := by decide +kernel
theorem dX0_make_12 : decode cX0_make 12 = .ok (.iload_n 3, 1) := by decide +kernel
theorem dX0_make_13 : decode cX0_make 13 = .ok (.iastore, 1) := by decide +kernel
theorem dX0_make_14 : decode cX0_make 14 = .ok (.aload_n 0, 1) := by decide +kernel
theorem dX0_make_15 : decode cX0_make 15 = .ok (.getfield 18, 3) := by decide +kernel
theorem dX0_make_18 : decode cX0_make 18 = .ok (.iload_n 1, 1) := by decide +kernel
theorem dX0_make_19 : decode cX0_make 19 = .ok (.iload 4, 2) := by decide +kernel
theorem dX0_make_21 : decode cX0_make 21 = .ok (.iastore, 1) := by decide +kernel
theorem dX0_make_22 : decode cX0_make 22 = .ok (.return_, 1) := by decide +kernel
theorem dX0_carry_0 : decode cX0_carry 0 = .ok (.aload_n 0, 1) := by decide +kernel
theorem dX0_carry_1 : decode cX0_carry 1 = .ok (.getfield 9, 3) := by decide +kernel
theorem dX0_carry_4 : decode cX0_carry 4 = .ok (.iload_n 2, 1) := by decide +kernel
theorem dX0_carry_5 : decode cX0_carry 5 = .ok (.aload_n 0, 1) := by decide +kernel
theorem dX0_carry_6 : decode cX0_carry 6 = .ok (.getfield 9, 3) := by decide +kernel
theorem dX0_carry_9 : decode cX0_carry 9 = .ok (.iload_n 1, 1) := by decide +kernel
theorem dX0_carry_10 : decode cX0_carry 10 = .ok (.iaload, 1) := by decide +kernel
theorem dX0_carry_11 : decode cX0_carry 11 = .ok (.iastore, 1) := by decide +kernel
theorem dX0_carry_12 : decode cX0_carry 12 = .ok (.aload_n 0, 1) := by decide +kernel
theorem dX0_carry_13 : decode cX0_carry 13 = .ok (.getfield 15, 3) := by decide +kernel
theorem dX0_carry_16 : decode cX0_carry 16 = .ok (.iload_n 2, 1) := by decide +kernel
theorem dX0_carry_17 : decode cX0_carry 17 = .ok (.aload_n 0, 1) := by decide +kernel
theorem dX0_carry_18 : decode cX0_carry 18 = .ok (.getfield 15, 3) := by decide +kernel
theorem dX0_carry_21 : decode cX0_carry 21 = .ok (.iload_n 1, 1) := by decide +kernel
theorem dX0_carry_22 : decode cX0_carry 22 = .ok (.iaload, 1) := by decide +kernel
theorem dX0_carry_23 : decode cX0_carry 23 = .ok (.iastore, 1) := by decide +kernel
theorem dX0_carry_24 : decode cX0_carry 24 = .ok (.aload_n 0, 1) := by decide +kernel
theorem dX0_carry_25 : decode cX0_carry 25 = .ok (.getfield 18, 3) := by decide +kernel
theorem dX0_carry_28 : decode cX0_carry 28 = .ok (.iload_n 2, 1) := by decide +kernel
theorem dX0_carry_29 : decode cX0_carry 29 = .ok (.aload_n 0, 1) := by decide +kernel
theorem dX0_carry_30 : decode cX0_carry 30 = .ok (.getfield 18, 3) := by decide +kernel
theorem dX0_carry_33 : decode cX0_carry 33 = .ok (.iload_n 1, 1) := by decide +kernel
theorem dX0_carry_34 : decode cX0_carry 34 = .ok (.iaload, 1) := by decide +kernel
theorem dX0_carry_35 : decode cX0_carry 35 = .ok (.iload_n 3, 1) := by decide +kernel
theorem dX0_carry_36 : decode cX0_carry 36 = .ok (.ior, 1) := by decide +kernel
theorem dX0_carry_37 : decode cX0_carry 37 = .ok (.iastore, 1) := by decide +kernel
theorem dX0_carry_38 : decode cX0_carry 38 = .ok (.return_, 1) := by decide +kernel
theorem dX0_endBadly_0 : decode cX0_endBadly 0 = .ok (.aload_n 0, 1) := by decide +kernel
theorem dX0_endBadly_1 : decode cX0_endBadly 1 = .ok (.iload_n 1, 1) := by decide +kernel
theorem dX0_endBadly_2 : decode cX0_endBadly 2 = .ok (.putfield 34, 3) := by decide +kernel
theorem dX0_endBadly_5 : decode cX0_endBadly 5 = .ok (.aload_n 0, 1) := by decide +kernel
theorem dX0_endBadly_6 : decode cX0_endBadly 6 = .ok (.iload_n 2, 1) := by decide +kernel
theorem dX0_endBadly_7 : decode cX0_endBadly 7 = .ok (.putfield 37, 3) := by decide +kernel
theorem dX0_endBadly_10 : decode cX0_endBadly 10 = .ok (.aload_n 0, 1) := by decide +kernel
theorem dX0_endBadly_11 : decode cX0_endBadly 11 = .ok (.aload_n 0, 1) := by decide +kernel
theorem dX0_endBadly_12 : decode cX0_endBadly 12 = .ok (.getfield 9, 3) := by decide +kernel
theorem dX0_endBadly_15 : decode cX0_endBadly 15 = .ok (.iload_n 3, 1) := by decide +kernel
theorem dX0_endBadly_16 : decode cX0_endBadly 16 = .ok (.iaload, 1) := by decide +kernel
theorem dX0_endBadly_17 : decode cX0_endBadly 17 = .ok (.putfield 40, 3) := by decide +kernel
theorem dX0_endBadly_20 : decode cX0_endBadly 20 = .ok (.aload_n 0, 1) := by decide +kernel
theorem dX0_endBadly_21 : decode cX0_endBadly 21 = .ok (.aload_n 0, 1) := by decide +kernel
theorem dX0_endBadly_22 : decode cX0_endBadly 22 = .ok (.getfield 15, 3) := by decide +kernel
theorem dX0_endBadly_25 : decode cX0_endBadly 25 = .ok (.iload_n 3, 1) := by decide +kernel
theorem dX0_endBadly_26 : decode cX0_endBadly 26 = .ok (.iaload, 1) := by decide +kernel
theorem dX0_endBadly_27 : decode cX0_endBadly 27 = .ok (.putfield 43, 3) := by decide +kernel
theorem dX0_endBadly_30 : decode cX0_endBadly 30 = .ok (.aload_n 0, 1) := by decide +kernel
theorem dX0_endBadly_31 : decode cX0_endBadly 31 = .ok (.aload_n 0, 1) := by decide +kernel
theorem dX0_endBadly_32 : decode cX0_endBadly 32 = .ok (.getfield 18, 3) := by decide +kernel
theorem dX0_endBadly_35 : decode cX0_endBadly 35 = .ok (.iload_n 3, 1) := by decide +kernel
theorem dX0_endBadly_36 : decode cX0_endBadly 36 = .ok (.iaload, 1) := by decide +kernel
theorem dX0_endBadly_37 : decode cX0_endBadly 37 = .ok (.putfield 46, 3) := by decide +kernel
theorem dX0_endBadly_40 : decode cX0_endBadly 40 = .ok (.return_, 1) := by decide +kernel
theorem dX0_isPlace_0 : decode cX0_isPlace 0 = .ok (.iload_n 0, 1) := by decide +kernel
theorem dX0_isPlace_1 : decode cX0_isPlace 1 = .ok (.ifCond .lt 13, 3) := by decide +kernel
theorem dX0_isPlace_4 : decode cX0_isPlace 4 = .ok (.iload_n 0, 1) := by decide +kernel
theorem dX0_isPlace_5 : decode cX0_isPlace 5 = .ok (.bipush 32, 2) := by decide +kernel
theorem dX0_isPlace_7 : decode cX0_isPlace 7 = .ok (.if_icmp .ge 7, 3) := by decide +kernel
theorem dX0_isPlace_10 : decode cX0_isPlace 10 = .ok (.iconst 1, 1) := by decide +kernel
theorem dX0_isPlace_11 : decode cX0_isPlace 11 = .ok (.goto 4, 3) := by decide +kernel
theorem dX0_isPlace_14 : decode cX0_isPlace 14 = .ok (.iconst 0, 1) := by decide +kernel
theorem dX0_isPlace_15 : decode cX0_isPlace 15 = .ok (.ireturn, 1) := by decide +kernel
theorem dX0_asRegister_0 : decode cX0_asRegister 0 = .ok (.iload_n 0, 1) := by decide +kernel
theorem dX0_asRegister_1 : decode cX0_asRegister 1 = .ok (.ifCond .lt 13, 3) := by decide +kernel
theorem dX0_asRegister_4 : decode cX0_asRegister 4 = .ok (.iload_n 0, 1) := by decide +kernel
theorem dX0_asRegister_5 : decode cX0_asRegister 5 = .ok (.bipush 8, 2) := by decide +kernel
theorem dX0_asRegister_7 : decode cX0_asRegister 7 = .ok (.if_icmp .ge 7, 3) := by decide +kernel
theorem dX0_asRegister_10 : decode cX0_asRegister 10 = .ok (.iload_n 0, 1) := by decide +kernel
theorem dX0_asRegister_11 : decode cX0_asRegister 11 = .ok (.goto 4, 3) := by decide +kernel
theorem dX0_asRegister_14 : decode cX0_asRegister 14 = .ok (.iconst 0, 1) := by decide +kernel
theorem dX0_asRegister_15 : decode cX0_asRegister 15 = .ok (.ireturn, 1) := by decide +kernel
theorem dX1_init_0 : decode cX1_init 0 = .ok (.aload_n 0, 1) := by decide +kernel
theorem dX1_init_1 : decode cX1_init 1 = .ok (.invokespecial 3, 3) := by decide +kernel
theorem dX1_init_4 : decode cX1_init 4 = .ok (.aload_n 0, 1) := by decide +kernel
theorem dX1_init_5 : decode cX1_init 5 = .ok (.new 9, 3) := by decide +kernel
theorem dX1_init_8 : decode cX1_init 8 = .ok (.dup, 1) := by decide +kernel
theorem dX1_init_9 : decode cX1_init 9 = .ok (.invokespecial 11, 3) := by decide +kernel
theorem dX1_init_12 : decode cX1_init 12 = .ok (.putfield 12, 3) := by decide +kernel
theorem dX1_init_15 : decode cX1_init 15 = .ok (.aload_n 0, 1) := by decide +kernel
theorem dX1_init_16 : decode cX1_init 16 = .ok (.bipush 14, 2) := by decide +kernel
theorem dX1_init_18 : decode cX1_init 18 = .ok (.newarray .long, 2) := by decide +kernel
theorem dX1_init_20 : decode cX1_init 20 = .ok (.putfield 18, 3) := by decide +kernel
theorem dX1_init_23 : decode cX1_init 23 = .ok (.aload_n 0, 1) := by decide +kernel
theorem dX1_init_24 : decode cX1_init 24 = .ok (.bipush 20, 2) := by decide +kernel
theorem dX1_init_26 : decode cX1_init 26 = .ok (.newarray .long, 2) := by decide +kernel
theorem dX1_init_28 : decode cX1_init 28 = .ok (.putfield 22, 3) := by decide +kernel
theorem dX1_init_31 : decode cX1_init 31 = .ok (.aload_n 0, 1) := by decide +kernel
theorem dX1_init_32 : decode cX1_init 32 = .ok (.bipush 20, 2) := by decide +kernel
theorem dX1_init_34 : decode cX1_init 34 = .ok (.newarray .int, 2) := by decide +kernel
theorem dX1_init_36 : decode cX1_init 36 = .ok (.putfield 25, 3) := by decide +kernel
theorem dX1_init_39 : decode cX1_init 39 = .ok (.aload_n 0, 1) := by decide +kernel
theorem dX1_init_40 : decode cX1_init 40 = .ok (.bipush 80, 2) := by decide +kernel
theorem dX1_init_42 : decode cX1_init 42 = .ok (.newarray .long, 2) := by decide +kernel
theorem dX1_init_44 : decode cX1_init 44 = .ok (.putfield 29, 3) := by decide +kernel
theorem dX1_init_47 : decode cX1_init 47 = .ok (.aload_n 0, 1) := by decide +kernel
theorem dX1_init_48 : decode cX1_init 48 = .ok (.bipush 80, 2) := by decide +kernel
theorem dX1_init_50 : decode cX1_init 50 = .ok (.newarray .int, 2) := by decide +kernel
theorem dX1_init_52 : decode cX1_init 52 = .ok (.putfield 32, 3) := by decide +kernel
theorem dX1_init_55 : decode cX1_init 55 = .ok (.aload_n 0, 1) := by decide +kernel
theorem dX1_init_56 : decode cX1_init 56 = .ok (.iconst 0, 1) := by decide +kernel
theorem dX1_init_57 : decode cX1_init 57 = .ok (.putfield 35, 3) := by decide +kernel
theorem dX1_init_60 : decode cX1_init 60 = .ok (.aload_n 0, 1) := by decide +kernel
theorem dX1_init_61 : decode cX1_init 61 = .ok (.iconst 0, 1) := by decide +kernel
theorem dX1_init_62 : decode cX1_init 62 = .ok (.putfield 39, 3) := by decide +kernel
theorem dX1_init_65 : decode cX1_init 65 = .ok (.aload_n 0, 1) := by decide +kernel
theorem dX1_init_66 : decode cX1_init 66 = .ok (.new 42, 3) := by decide +kernel
theorem dX1_init_69 : decode cX1_init 69 = .ok (.dup, 1) := by decide +kernel
theorem dX1_init_70 : decode cX1_init 70 = .ok (.invokespecial 44, 3) := by decide +kernel
theorem dX1_init_73 : decode cX1_init 73 = .ok (.putfield 45, 3) := by decide +kernel
theorem dX1_init_76 : decode cX1_init 76 = .ok (.aload_n 0, 1) := by decide +kernel
theorem dX1_init_77 : decode cX1_init 77 = .ok (.iconst 0, 1) := by decide +kernel
theorem dX1_init_78 : decode cX1_init 78 = .ok (.putfield 49, 3) := by decide +kernel
theorem dX1_init_81 : decode cX1_init 81 = .ok (.aload_n 0, 1) := by decide +kernel
theorem dX1_init_82 : decode cX1_init 82 = .ok (.iconst (-1), 1) := by decide +kernel
theorem dX1_init_83 : decode cX1_init 83 = .ok (.putfield 52, 3) := by decide +kernel
theorem dX1_init_86 : decode cX1_init 86 = .ok (.iconst 0, 1) := by decide +kernel
theorem dX1_init_87 : decode cX1_init 87 = .ok (.istore_n 1, 1) := by decide +kernel
theorem dX1_init_88 : decode cX1_init 88 = .ok (.lconst 0, 1) := by decide +kernel
theorem dX1_init_89 : decode cX1_init 89 = .ok (.lstore_n 2, 1) := by decide +kernel
theorem dX1_init_90 : decode cX1_init 90 = .ok (.iconst 0, 1) := by decide +kernel
theorem dX1_init_91 : decode cX1_init 91 = .ok (.istore 4, 2) := by decide +kernel
theorem dX1_init_93 : decode cX1_init 93 = .ok (.iload 4, 2) := by decide +kernel
theorem dX1_init_95 : decode cX1_init 95 = .ok (.ldc 55, 2) := by decide +kernel
theorem dX1_init_97 : decode cX1_init 97 = .ok (.invokevirtual 57, 3) := by decide +kernel
theorem dX1_init_100 : decode cX1_init 100 = .ok (.if_icmp .ge 53, 3) := by decide +kernel
theorem dX1_init_103 : decode cX1_init 103 = .ok (.iload_n 1, 1) := by decide +kernel
theorem dX1_init_104 : decode cX1_init 104 = .ok (.bipush 14, 2) := by decide +kernel
theorem dX1_init_106 : decode cX1_init 106 = .ok (.if_icmp .ge 47, 3) := by decide +kernel
theorem dX1_init_109 : decode cX1_init 109 = .ok (.ldc 55, 2) := by decide +kernel
theorem dX1_init_111 : decode cX1_init 111 = .ok (.iload 4, 2) := by decide +kernel
theorem dX1_init_113 : decode cX1_init 113 = .ok (.invokevirtual 63, 3) := by decide +kernel
theorem dX1_init_116 : decode cX1_init 116 = .ok (.istore 5, 2) := by decide +kernel
theorem dX1_init_118 : decode cX1_init 118 = .ok (.iload 5, 2) := by decide +kernel
theorem dX1_init_120 : decode cX1_init 120 = .ok (.bipush 32, 2) := by decide +kernel
theorem dX1_init_122 : decode cX1_init 122 = .ok (.if_icmp .ne 18, 3) := by decide +kernel
theorem dX1_init_125 : decode cX1_init 125 = .ok (.aload_n 0, 1) := by decide +kernel
theorem dX1_init_126 : decode cX1_init 126 = .ok (.getfield 18, 3) := by decide +kernel
theorem dX1_init_129 : decode cX1_init 129 = .ok (.iload_n 1, 1) := by decide +kernel
theorem dX1_init_130 : decode cX1_init 130 = .ok (.lload_n 2, 1) := by decide +kernel
theorem dX1_init_131 : decode cX1_init 131 = .ok (.lastore, 1) := by decide +kernel
theorem dX1_init_132 : decode cX1_init 132 = .ok (.iinc 1 1, 3) := by decide +kernel
theorem dX1_init_135 : decode cX1_init 135 = .ok (.lconst 0, 1) := by decide +kernel
theorem dX1_init_136 : decode cX1_init 136 = .ok (.lstore_n 2, 1) := by decide +kernel
theorem dX1_init_137 : decode cX1_init 137 = .ok (.goto 10, 3) := by decide +kernel
theorem dX1_init_140 : decode cX1_init 140 = .ok (.lload_n 2, 1) := by decide +kernel
theorem dX1_init_141 : decode cX1_init 141 = .ok (.iload 5, 2) := by decide +kernel
theorem dX1_init_143 : decode cX1_init 143 = .ok (.invokestatic 67, 3) := by decide +kernel
theorem dX1_init_146 : decode cX1_init 146 = .ok (.lstore_n 2, 1) := by decide +kernel
theorem dX1_init_147 : decode cX1_init 147 = .ok (.iinc 4 1, 3) := by decide +kernel
theorem dX1_init_150 : decode cX1_init 150 = .ok (.goto (-57), 3) := by decide +kernel
theorem dX1_init_153 : decode cX1_init 153 = .ok (.return_, 1) := by decide +kernel
theorem dX1_parse_0 : decode cX1_parse 0 = .ok (.aload_n 0, 1) := by decide +kernel
theorem dX1_parse_1 : decode cX1_parse 1 = .ok (.getfield 45, 3) := by decide +kernel
theorem dX1_parse_4 : decode cX1_parse 4 = .ok (.iconst 0, 1) := by decide +kernel
theorem dX1_parse_5 : decode cX1_parse 5 = .ok (.putfield 71, 3) := by decide +kernel
theorem dX1_parse_8 : decode cX1_parse 8 = .ok (.aload_n 0, 1) := by decide +kernel
theorem dX1_parse_9 : decode cX1_parse 9 = .ok (.iconst 0, 1) := by decide +kernel
theorem dX1_parse_10 : decode cX1_parse 10 = .ok (.putfield 35, 3) := by decide +kernel
theorem dX1_parse_13 : decode cX1_parse 13 = .ok (.aload_n 0, 1) := by decide +kernel
theorem dX1_parse_14 : decode cX1_parse 14 = .ok (.iconst 0, 1) := by decide +kernel
theorem dX1_parse_15 : decode cX1_parse 15 = .ok (.putfield 39, 3) := by decide +kernel
theorem dX1_parse_18 : decode cX1_parse 18 = .ok (.aload_n 0, 1) := by decide +kernel
theorem dX1_parse_19 : decode cX1_parse 19 = .ok (.iconst 0, 1) := by decide +kernel
theorem dX1_parse_20 : decode cX1_parse 20 = .ok (.putfield 49, 3) := by decide +kernel
theorem dX1_parse_23 : decode cX1_parse 23 = .ok (.aload_n 0, 1) := by decide +kernel
theorem dX1_parse_24 : decode cX1_parse 24 = .ok (.iconst (-1), 1) := by decide +kernel
theorem dX1_parse_25 : decode cX1_parse 25 = .ok (.putfield 52, 3) := by decide +kernel
theorem dX1_parse_28 : decode cX1_parse 28 = .ok (.aload_n 0, 1) := by decide +kernel
theorem dX1_parse_29 : decode cX1_parse 29 = .ok (.getfield 12, 3) := by decide +kernel
theorem dX1_parse_32 : decode cX1_parse 32 = .ok (.aload_n 1, 1) := by decide +kernel
theorem dX1_parse_33 : decode cX1_parse 33 = .ok (.invokevirtual 74, 3) := by decide +kernel
theorem dX1_parse_36 : decode cX1_parse 36 = .ok (.iconst 1, 1) := by decide +kernel
theorem dX1_parse_37 : decode cX1_parse 37 = .ok (.istore_n 2, 1) := by decide +kernel
theorem dX1_parse_38 : decode cX1_parse 38 = .ok (.iconst 0, 1) := by decide +kernel
theorem dX1_parse_39 : decode cX1_parse 39 = .ok (.istore_n 3, 1) := by decide +kernel
theorem dX1_parse_40 : decode cX1_parse 40 = .ok (.iload_n 3, 1) := by decide +kernel
theorem dX1_parse_41 : decode cX1_parse 41 = .ok (.sipush 1000, 3) := by decide +kernel
theorem dX1_parse_44 : decode cX1_parse 44 = .ok (.if_icmp .gt 18, 3) := by decide +kernel
theorem dX1_parse_47 : decode cX1_parse 47 = .ok (.iload_n 2, 1) := by decide +kernel
theorem dX1_parse_48 : decode cX1_parse 48 = .ok (.ifCond .eq 14, 3) := by decide +kernel
theorem dX1_parse_51 : decode cX1_parse 51 = .ok (.aload_n 0, 1) := by decide +kernel
theorem dX1_parse_52 : decode cX1_parse 52 = .ok (.invokevirtual 78, 3) := by decide +kernel
theorem dX1_parse_55 : decode cX1_parse 55 = .ok (.istore_n 2, 1) := by decide +kernel
theorem dX1_parse_56 : decode cX1_parse 56 = .ok (.iinc 3 1, 3) := by decide +kernel
theorem dX1_parse_59 : decode cX1_parse 59 = .ok (.goto (-19), 3) := by decide +kernel
theorem dX1_parse_62 : decode cX1_parse 62 = .ok (.aload_n 0, 1) := by decide +kernel
theorem dX1_parse_63 : decode cX1_parse 63 = .ok (.getfield 49, 3) := by decide +kernel
theorem dX1_parse_66 : decode cX1_parse 66 = .ok (.ifCond .ne 7, 3) := by decide +kernel
theorem dX1_parse_69 : decode cX1_parse 69 = .ok (.aload_n 0, 1) := by decide +kernel
theorem dX1_parse_70 : decode cX1_parse 70 = .ok (.invokevirtual 82, 3) := by decide +kernel
theorem dX1_parse_73 : decode cX1_parse 73 = .ok (.return_, 1) := by decide +kernel
theorem dX1_exchange_0 : decode cX1_exchange 0 = .ok (.aload_n 0, 1) := by decide +kernel
theorem dX1_exchange_1 : decode cX1_exchange 1 = .ok (.getfield 45, 3) := by decide +kernel
theorem dX1_exchange_4 : decode cX1_exchange 4 = .ok (.astore_n 2, 1) := by decide +kernel
theorem dX1_exchange_5 : decode cX1_exchange 5 = .ok (.aload_n 0, 1) := by decide +kernel
theorem dX1_exchange_6 : decode cX1_exchange 6 = .ok (.aload_n 1, 1) := by decide +kernel
theorem dX1_exchange_7 : decode cX1_exchange 7 = .ok (.putfield 45, 3) := by decide +kernel
theorem dX1_exchange_10 : decode cX1_exchange 10 = .ok (.aload_n 2, 1) := by decide +kernel
theorem dX1_exchange_11 : decode cX1_exchange 11 = .ok (.areturn, 1) := by decide +kernel
theorem dX1_readLine_0 : decode cX1_readLine 0 = .ok (.iconst 0, 1) := by decide +kernel
theorem dX1_readLine_1 : decode cX1_readLine 1 = .ok (.istore_n 1, 1) := by decide +kernel
theorem dX1_readLine_2 : decode cX1_readLine 2 = .ok (.iload_n 1, 1) := by decide +kernel
theorem dX1_readLine_3 : decode cX1_readLine 3 = .ok (.bipush 20, 2) := by decide +kernel
theorem dX1_readLine_5 : decode cX1_readLine 5 = .ok (.if_icmp .gt 27, 3) := by decide +kernel
theorem dX1_readLine_8 : decode cX1_readLine 8 = .ok (.aload_n 0, 1) := by decide +kernel
theorem dX1_readLine_9 : decode cX1_readLine 9 = .ok (.getfield 49, 3) := by decide +kernel
theorem dX1_readLine_12 : decode cX1_readLine 12 = .ok (.ifCond .ne 20, 3) := by decide +kernel
theorem dX1_readLine_15 : decode cX1_readLine 15 = .ok (.aload_n 0, 1) := by decide +kernel
theorem dX1_readLine_16 : decode cX1_readLine 16 = .ok (.invokevirtual 85, 3) := by decide +kernel
theorem dX1_readLine_19 : decode cX1_readLine 19 = .ok (.ifCond .eq 13, 3) := by decide +kernel
theorem dX1_readLine_22 : decode cX1_readLine 22 = .ok (.aload_n 0, 1) := by decide +kernel
theorem dX1_readLine_23 : decode cX1_readLine 23 = .ok (.invokevirtual 88, 3) := by decide +kernel
theorem dX1_readLine_26 : decode cX1_readLine 26 = .ok (.iinc 1 1, 3) := by decide +kernel
theorem dX1_readLine_29 : decode cX1_readLine 29 = .ok (.goto (-27), 3) := by decide +kernel
theorem dX1_readLine_32 : decode cX1_readLine 32 = .ok (.aload_n 0, 1) := by decide +kernel
theorem dX1_readLine_33 : decode cX1_readLine 33 = .ok (.getfield 49, 3) := by decide +kernel
theorem dX1_readLine_36 : decode cX1_readLine 36 = .ok (.ifCond .ne 15, 3) := by decide +kernel
theorem dX1_readLine_39 : decode cX1_readLine 39 = .ok (.aload_n 0, 1) := by decide +kernel
theorem dX1_readLine_40 : decode cX1_readLine 40 = .ok (.invokevirtual 91, 3) := by decide +kernel
theorem dX1_readLine_43 : decode cX1_readLine 43 = .ok (.iconst 1, 1) := by decide +kernel
theorem dX1_readLine_44 : decode cX1_readLine 44 = .ok (.if_icmp .ne 7, 3) := by decide +kernel
theorem dX1_readLine_47 : decode cX1_readLine 47 = .ok (.aload_n 0, 1) := by decide +kernel
theorem dX1_readLine_48 : decode cX1_readLine 48 = .ok (.invokevirtual 94, 3) := by decide +kernel
theorem dX1_readLine_51 : decode cX1_readLine 51 = .ok (.aload_n 0, 1) := by decide +kernel
theorem dX1_readLine_52 : decode cX1_readLine 52 = .ok (.getfield 49, 3) := by decide +kernel
theorem dX1_readLine_55 : decode cX1_readLine 55 = .ok (.ifCond .ne 14, 3) := by decide +kernel
theorem dX1_readLine_58 : decode cX1_readLine 58 = .ok (.aload_n 0, 1) := by decide +kernel
theorem dX1_readLine_59 : decode cX1_readLine 59 = .ok (.invokevirtual 91, 3) := by decide +kernel
theorem dX1_readLine_62 : decode cX1_readLine 62 = .ok (.bipush 6, 2) := by decide +kernel
theorem dX1_readLine_64 : decode cX1_readLine 64 = .ok (.if_icmp .ne 5, 3) := by decide +kernel
theorem dX1_readLine_67 : decode cX1_readLine 67 = .ok (.iconst 0, 1) := by decide +kernel
theorem dX1_readLine_68 : decode cX1_readLine 68 = .ok (.ireturn, 1) := by decide +kernel
theorem dX1_readLine_69 : decode cX1_readLine 69 = .ok (.aload_n 0, 1) := by decide +kernel
theorem dX1_readLine_70 : decode cX1_readLine 70 = .ok (.iconst 5, 1) := by decide +kernel
theorem dX1_readLine_71 : decode cX1_readLine 71 = .ok (.invokevirtual 97, 3) := by decide +kernel
theorem dX1_readLine_74 : decode cX1_readLine 74 = .ok (.ireturn, 1) := by decide +kernel
theorem dX1_readLabel_0 : decode cX1_readLabel 0 = .ok (.aload_n 0, 1) := by decide +kernel
theorem dX1_readLabel_1 : decode cX1_readLabel 1 = .ok (.getfield 35, 3) := by decide +kernel
theorem dX1_readLabel_4 : decode cX1_readLabel 4 = .ok (.bipush 20, 2) := by decide +kernel
theorem dX1_readLabel_6 : decode cX1_readLabel 6 = .ok (.if_icmp .lt 11, 3) := by decide +kernel
theorem dX1_readLabel_9 : decode cX1_readLabel 9 = .ok (.aload_n 0, 1) := by decide +kernel
theorem dX1_readLabel_10 : decode cX1_readLabel 10 = .ok (.iconst 2, 1) := by decide +kernel
theorem dX1_readLabel_11 : decode cX1_readLabel 11 = .ok (.invokevirtual 101, 3) := by decide +kernel
theorem dX1_readLabel_14 : decode cX1_readLabel 14 = .ok (.goto 90, 3) := by decide +kernel
theorem dX1_readLabel_17 : decode cX1_readLabel 17 = .ok (.aload_n 0, 1) := by decide +kernel
theorem dX1_readLabel_18 : decode cX1_readLabel 18 = .ok (.aload_n 0, 1) := by decide +kernel
theorem dX1_readLabel_19 : decode cX1_readLabel 19 = .ok (.getfield 12, 3) := by decide +kernel
theorem dX1_readLabel_22 : decode cX1_readLabel 22 = .ok (.getfield 105, 3) := by decide +kernel
theorem dX1_readLabel_25 : decode cX1_readLabel 25 = .ok (.aload_n 0, 1) := by decide +kernel
theorem dX1_readLabel_26 : decode cX1_readLabel 26 = .ok (.getfield 39, 3) := by decide +kernel
theorem dX1_readLabel_29 : decode cX1_readLabel 29 = .ok (.laload, 1) := by decide +kernel
theorem dX1_readLabel_30 : decode cX1_readLabel 30 = .ok (.invokevirtual 108, 3) := by decide +kernel
theorem dX1_readLabel_33 : decode cX1_readLabel 33 = .ok (.iconst (-1), 1) := by decide +kernel
theorem dX1_readLabel_34 : decode cX1_readLabel 34 = .ok (.if_icmp .eq 11, 3) := by decide +kernel
theorem dX1_readLabel_37 : decode cX1_readLabel 37 = .ok (.aload_n 0, 1) := by decide +kernel
theorem dX1_readLabel_38 : decode cX1_readLabel 38 = .ok (.iconst 3, 1) := by decide +kernel
theorem dX1_readLabel_39 : decode cX1_readLabel 39 = .ok (.invokevirtual 101, 3) := by decide +kernel
theorem dX1_readLabel_42 : decode cX1_readLabel 42 = .ok (.goto 62, 3) := by decide +kernel
theorem dX1_readLabel_45 : decode cX1_readLabel 45 = .ok (.aload_n 0, 1) := by decide +kernel
theorem dX1_readLabel_46 : decode cX1_readLabel 46 = .ok (.getfield 22, 3) := by decide +kernel
theorem dX1_readLabel_49 : decode cX1_readLabel 49 = .ok (.aload_n 0, 1) := by decide +kernel
theorem dX1_readLabel_50 : decode cX1_readLabel 50 = .ok (.getfield 35, 3) := by decide +kernel
theorem dX1_readLabel_53 : decode cX1_readLabel 53 = .ok (.aload_n 0, 1) := by decide +kernel
theorem dX1_readLabel_54 : decode cX1_readLabel 54 = .ok (.getfield 12, 3) := by decide +kernel
theorem dX1_readLabel_57 : decode cX1_readLabel 57 = .ok (.getfield 105, 3) := by decide +kernel
theorem dX1_readLabel_60 : decode cX1_readLabel 60 = .ok (.aload_n 0, 1) := by decide +kernel
theorem dX1_readLabel_61 : decode cX1_readLabel 61 = .ok (.getfield 39, 3) := by decide +kernel
theorem dX1_readLabel_64 : decode cX1_readLabel 64 = .ok (.laload, 1) := by decide +kernel
theorem dX1_readLabel_65 : decode cX1_readLabel 65 = .ok (.lastore, 1) := by decide +kernel
theorem dX1_readLabel_66 : decode cX1_readLabel 66 = .ok (.aload_n 0, 1) := by decide +kernel
theorem dX1_readLabel_67 : decode cX1_readLabel 67 = .ok (.getfield 25, 3) := by decide +kernel
theorem dX1_readLabel_70 : decode cX1_readLabel 70 = .ok (.aload_n 0, 1) := by decide +kernel
theorem dX1_readLabel_71 : decode cX1_readLabel 71 = .ok (.getfield 35, 3) := by decide +kernel
theorem dX1_readLabel_74 : decode cX1_readLabel 74 = .ok (.aload_n 0, 1) := by decide +kernel
theorem dX1_readLabel_75 : decode cX1_readLabel 75 = .ok (.getfield 45, 3) := by decide +kernel
theorem dX1_readLabel_78 : decode cX1_readLabel 78 = .ok (.getfield 71, 3) := by decide +kernel
theorem dX1_readLabel_81 : decode cX1_readLabel 81 = .ok (.iastore, 1) := by decide +kernel
theorem dX1_readLabel_82 : decode cX1_readLabel 82 = .ok (.aload_n 0, 1) := by decide +kernel
theorem dX1_readLabel_83 : decode cX1_readLabel 83 = .ok (.dup, 1) := by decide +kernel
theorem dX1_readLabel_84 : decode cX1_readLabel 84 = .ok (.getfield 35, 3) := by decide +kernel
theorem dX1_readLabel_87 : decode cX1_readLabel 87 = .ok (.iconst 1, 1) := by decide +kernel
