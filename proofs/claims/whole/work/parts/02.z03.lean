theorem dX9_beginRound_28 : decode cX9_beginRound 28 = .ok (.aload_n 0, 1) := by decide +kernel
theorem dX9_beginRound_29 : decode cX9_beginRound 29 = .ok (.getfield 112, 3) := by decide +kernel
theorem dX9_beginRound_32 : decode cX9_beginRound 32 = .ok (.iload_n 1, 1) := by decide +kernel
theorem dX9_beginRound_33 : decode cX9_beginRound 33 = .ok (.iconst 0, 1) := by decide +kernel
theorem dX9_beginRound_34 : decode cX9_beginRound 34 = .ok (.iastore, 1) := by decide +kernel
theorem dX9_beginRound_35 : decode cX9_beginRound 35 = .ok (.aload_n 0, 1) := by decide +kernel
theorem dX9_beginRound_36 : decode cX9_beginRound 36 = .ok (.iload_n 1, 1) := by decide +kernel
theorem dX9_beginRound_37 : decode cX9_beginRound 37 = .ok (.invokevirtual 190, 3) := by decide +kernel
theorem dX9_beginRound_40 : decode cX9_beginRound 40 = .ok (.return_, 1) := by decide +kernel
theorem dX9_forgetBest_0 : decode cX9_forgetBest 0 = .ok (.iconst 0, 1) := by decide +kernel
theorem dX9_forgetBest_1 : decode cX9_forgetBest 1 = .ok (.istore_n 2, 1) := by decide +kernel
theorem dX9_forgetBest_2 : decode cX9_forgetBest 2 = .ok (.iload_n 2, 1) := by decide +kernel
theorem dX9_forgetBest_3 : decode cX9_forgetBest 3 = .ok (.iconst 3, 1) := by decide +kernel
theorem dX9_forgetBest_4 : decode cX9_forgetBest 4 = .ok (.if_icmp .ge 31, 3) := by decide +kernel
theorem dX9_forgetBest_7 : decode cX9_forgetBest 7 = .ok (.aload_n 0, 1) := by decide +kernel
theorem dX9_forgetBest_8 : decode cX9_forgetBest 8 = .ok (.getfield 127, 3) := by decide +kernel
theorem dX9_forgetBest_11 : decode cX9_forgetBest 11 = .ok (.iconst 3, 1) := by decide +kernel
theorem dX9_forgetBest_12 : decode cX9_forgetBest 12 = .ok (.iload_n 1, 1) := by decide +kernel
theorem dX9_forgetBest_13 : decode cX9_forgetBest 13 = .ok (.imul, 1) := by decide +kernel
theorem dX9_forgetBest_14 : decode cX9_forgetBest 14 = .ok (.iload_n 2, 1) := by decide +kernel
theorem dX9_forgetBest_15 : decode cX9_forgetBest 15 = .ok (.iadd, 1) := by decide +kernel
theorem dX9_forgetBest_16 : decode cX9_forgetBest 16 = .ok (.iconst 0, 1) := by decide +kernel
theorem dX9_forgetBest_17 : decode cX9_forgetBest 17 = .ok (.iastore, 1) := by decide +kernel
theorem dX9_forgetBest_18 : decode cX9_forgetBest 18 = .ok (.aload_n 0, 1) := by decide +kernel
theorem dX9_forgetBest_19 : decode cX9_forgetBest 19 = .ok (.getfield 130, 3) := by decide +kernel
theorem dX9_forgetBest_22 : decode cX9_forgetBest 22 = .ok (.iconst 3, 1) := by decide +kernel
theorem dX9_forgetBest_23 : decode cX9_forgetBest 23 = .ok (.iload_n 1, 1) := by decide +kernel
theorem dX9_forgetBest_24 : decode cX9_forgetBest 24 = .ok (.imul, 1) := by decide +kernel
theorem dX9_forgetBest_25 : decode cX9_forgetBest 25 = .ok (.iload_n 2, 1) := by decide +kernel
theorem dX9_forgetBest_26 : decode cX9_forgetBest 26 = .ok (.iadd, 1) := by decide +kernel
theorem dX9_forgetBest_27 : decode cX9_forgetBest 27 = .ok (.iconst 0, 1) := by decide +kernel
theorem dX9_forgetBest_28 : decode cX9_forgetBest 28 = .ok (.iastore, 1) := by decide +kernel
theorem dX9_forgetBest_29 : decode cX9_forgetBest 29 = .ok (.iinc 2 1, 3) := by decide +kernel
theorem dX9_forgetBest_32 : decode cX9_forgetBest 32 = .ok (.goto (-30), 3) := by decide +kernel
theorem dX9_forgetBest_35 : decode cX9_forgetBest 35 = .ok (.return_, 1) := by decide +kernel
theorem dX9_beginOperation_0 : decode cX9_beginOperation 0 = .ok (.aload_n 0, 1) := by decide +kernel
theorem dX9_beginOperation_1 : decode cX9_beginOperation 1 = .ok (.getfield 152, 3) := by decide +kernel
theorem dX9_beginOperation_4 : decode cX9_beginOperation 4 = .ok (.istore 5, 2) := by decide +kernel
theorem dX9_beginOperation_6 : decode cX9_beginOperation 6 = .ok (.aload_n 0, 1) := by decide +kernel
theorem dX9_beginOperation_7 : decode cX9_beginOperation 7 = .ok (.aload_n 0, 1) := by decide +kernel
theorem dX9_beginOperation_8 : decode cX9_beginOperation 8 = .ok (.getfield 152, 3) := by decide +kernel
theorem dX9_beginOperation_11 : decode cX9_beginOperation 11 = .ok (.iconst 1, 1) := by decide +kernel
theorem dX9_beginOperation_12 : decode cX9_beginOperation 12 = .ok (.iadd, 1) := by decide +kernel
theorem dX9_beginOperation_13 : decode cX9_beginOperation 13 = .ok (.putfield 152, 3) := by decide +kernel
theorem dX9_beginOperation_16 : decode cX9_beginOperation 16 = .ok (.aload_n 0, 1) := by decide +kernel
theorem dX9_beginOperation_17 : decode cX9_beginOperation 17 = .ok (.aload_n 0, 1) := by decide +kernel
theorem dX9_beginOperation_18 : decode cX9_beginOperation 18 = .ok (.getfield 158, 3) := by decide +kernel
theorem dX9_beginOperation_21 : decode cX9_beginOperation 21 = .ok (.iconst 1, 1) := by decide +kernel
theorem dX9_beginOperation_22 : decode cX9_beginOperation 22 = .ok (.iadd, 1) := by decide +kernel
theorem dX9_beginOperation_23 : decode cX9_beginOperation 23 = .ok (.putfield 158, 3) := by decide +kernel
theorem dX9_beginOperation_26 : decode cX9_beginOperation 26 = .ok (.aload_n 0, 1) := by decide +kernel
theorem dX9_beginOperation_27 : decode cX9_beginOperation 27 = .ok (.getfield 76, 3) := by decide +kernel
theorem dX9_beginOperation_30 : decode cX9_beginOperation 30 = .ok (.iload 5, 2) := by decide +kernel
theorem dX9_beginOperation_32 : decode cX9_beginOperation 32 = .ok (.iload_n 1, 1) := by decide +kernel
theorem dX9_beginOperation_33 : decode cX9_beginOperation 33 = .ok (.iastore, 1) := by decide +kernel
theorem dX9_beginOperation_34 : decode cX9_beginOperation 34 = .ok (.aload_n 0, 1) := by decide +kernel
theorem dX9_beginOperation_35 : decode cX9_beginOperation 35 = .ok (.getfield 79, 3) := by decide +kernel
theorem dX9_beginOperation_38 : decode cX9_beginOperation 38 = .ok (.iload 5, 2) := by decide +kernel
theorem dX9_beginOperation_40 : decode cX9_beginOperation 40 = .ok (.iload_n 2, 1) := by decide +kernel
theorem dX9_beginOperation_41 : decode cX9_beginOperation 41 = .ok (.iastore, 1) := by decide +kernel
theorem dX9_beginOperation_42 : decode cX9_beginOperation 42 = .ok (.aload_n 0, 1) := by decide +kernel
theorem dX9_beginOperation_43 : decode cX9_beginOperation 43 = .ok (.getfield 82, 3) := by decide +kernel
theorem dX9_beginOperation_46 : decode cX9_beginOperation 46 = .ok (.iload 5, 2) := by decide +kernel
theorem dX9_beginOperation_48 : decode cX9_beginOperation 48 = .ok (.iload_n 3, 1) := by decide +kernel
theorem dX9_beginOperation_49 : decode cX9_beginOperation 49 = .ok (.iastore, 1) := by decide +kernel
theorem dX9_beginOperation_50 : decode cX9_beginOperation 50 = .ok (.aload_n 0, 1) := by decide +kernel
theorem dX9_beginOperation_51 : decode cX9_beginOperation 51 = .ok (.getfield 85, 3) := by decide +kernel
theorem dX9_beginOperation_54 : decode cX9_beginOperation 54 = .ok (.iload 5, 2) := by decide +kernel
theorem dX9_beginOperation_56 : decode cX9_beginOperation 56 = .ok (.iload 4, 2) := by decide +kernel
theorem dX9_beginOperation_58 : decode cX9_beginOperation 58 = .ok (.iastore, 1) := by decide +kernel
theorem dX9_beginOperation_59 : decode cX9_beginOperation 59 = .ok (.aload_n 0, 1) := by decide +kernel
theorem dX9_beginOperation_60 : decode cX9_beginOperation 60 = .ok (.getfield 88, 3) := by decide +kernel
theorem dX9_beginOperation_63 : decode cX9_beginOperation 63 = .ok (.iload 5, 2) := by decide +kernel
theorem dX9_beginOperation_65 : decode cX9_beginOperation 65 = .ok (.iconst 0, 1) := by decide +kernel
theorem dX9_beginOperation_66 : decode cX9_beginOperation 66 = .ok (.bastore, 1) := by decide +kernel
theorem dX9_beginOperation_67 : decode cX9_beginOperation 67 = .ok (.aload_n 0, 1) := by decide +kernel
theorem dX9_beginOperation_68 : decode cX9_beginOperation 68 = .ok (.getfield 91, 3) := by decide +kernel
theorem dX9_beginOperation_71 : decode cX9_beginOperation 71 = .ok (.iload 5, 2) := by decide +kernel
theorem dX9_beginOperation_73 : decode cX9_beginOperation 73 = .ok (.iconst 0, 1) := by decide +kernel
theorem dX9_beginOperation_74 : decode cX9_beginOperation 74 = .ok (.iastore, 1) := by decide +kernel
theorem dX9_beginOperation_75 : decode cX9_beginOperation 75 = .ok (.aload_n 0, 1) := by decide +kernel
theorem dX9_beginOperation_76 : decode cX9_beginOperation 76 = .ok (.getfield 94, 3) := by decide +kernel
theorem dX9_beginOperation_79 : decode cX9_beginOperation 79 = .ok (.iload 5, 2) := by decide +kernel
theorem dX9_beginOperation_81 : decode cX9_beginOperation 81 = .ok (.aload_n 0, 1) := by decide +kernel
theorem dX9_beginOperation_82 : decode cX9_beginOperation 82 = .ok (.getfield 158, 3) := by decide +kernel
theorem dX9_beginOperation_85 : decode cX9_beginOperation 85 = .ok (.iastore, 1) := by decide +kernel
theorem dX9_beginOperation_86 : decode cX9_beginOperation 86 = .ok (.aload_n 0, 1) := by decide +kernel
theorem dX9_beginOperation_87 : decode cX9_beginOperation 87 = .ok (.getfield 97, 3) := by decide +kernel
theorem dX9_beginOperation_90 : decode cX9_beginOperation 90 = .ok (.iload 5, 2) := by decide +kernel
theorem dX9_beginOperation_92 : decode cX9_beginOperation 92 = .ok (.iconst 0, 1) := by decide +kernel
theorem dX9_beginOperation_93 : decode cX9_beginOperation 93 = .ok (.iastore, 1) := by decide +kernel
theorem dX9_beginOperation_94 : decode cX9_beginOperation 94 = .ok (.aload_n 0, 1) := by decide +kernel
theorem dX9_beginOperation_95 : decode cX9_beginOperation 95 = .ok (.getfield 100, 3) := by decide +kernel
theorem dX9_beginOperation_98 : decode cX9_beginOperation 98 = .ok (.iload 5, 2) := by decide +kernel
theorem dX9_beginOperation_100 : decode cX9_beginOperation 100 = .ok (.iconst 0, 1) := by decide +kernel
theorem dX9_beginOperation_101 : decode cX9_beginOperation 101 = .ok (.iastore, 1) := by decide +kernel
theorem dX9_beginOperation_102 : decode cX9_beginOperation 102 = .ok (.aload_n 0, 1) := by decide +kernel
theorem dX9_beginOperation_103 : decode cX9_beginOperation 103 = .ok (.getfield 103, 3) := by decide +kernel
theorem dX9_beginOperation_106 : decode cX9_beginOperation 106 = .ok (.iload_n 2, 1) := by decide +kernel
theorem dX9_beginOperation_107 : decode cX9_beginOperation 107 = .ok (.iload 5, 2) := by decide +kernel
theorem dX9_beginOperation_109 : decode cX9_beginOperation 109 = .ok (.iastore, 1) := by decide +kernel
theorem dX9_beginOperation_110 : decode cX9_beginOperation 110 = .ok (.aload_n 0, 1) := by decide +kernel
theorem dX9_beginOperation_111 : decode cX9_beginOperation 111 = .ok (.iload_n 2, 1) := by decide +kernel
theorem dX9_beginOperation_112 : decode cX9_beginOperation 112 = .ok (.invokevirtual 194, 3) := by decide +kernel
theorem dX9_beginOperation_115 : decode cX9_beginOperation 115 = .ok (.aload_n 0, 1) := by decide +kernel
theorem dX9_beginOperation_116 : decode cX9_beginOperation 116 = .ok (.iload_n 2, 1) := by decide +kernel
theorem dX9_beginOperation_117 : decode cX9_beginOperation 117 = .ok (.iconst 1, 1) := by decide +kernel
theorem dX9_beginOperation_118 : decode cX9_beginOperation 118 = .ok (.invokevirtual 197, 3) := by decide +kernel
theorem dX9_beginOperation_121 : decode cX9_beginOperation 121 = .ok (.iload 5, 2) := by decide +kernel
theorem dX9_beginOperation_123 : decode cX9_beginOperation 123 = .ok (.ireturn, 1) := by decide +kernel
theorem dX9_over_0 : decode cX9_over 0 = .ok (.aload_n 0, 1) := by decide +kernel
theorem dX9_over_1 : decode cX9_over 1 = .ok (.getfield 103, 3) := by decide +kernel
theorem dX9_over_4 : decode cX9_over 4 = .ok (.iload_n 1, 1) := by decide +kernel
theorem dX9_over_5 : decode cX9_over 5 = .ok (.iaload, 1) := by decide +kernel
theorem dX9_over_6 : decode cX9_over 6 = .ok (.istore_n 3, 1) := by decide +kernel
theorem dX9_over_7 : decode cX9_over 7 = .ok (.aload_n 0, 1) := by decide +kernel
theorem dX9_over_8 : decode cX9_over 8 = .ok (.aload_n 0, 1) := by decide +kernel
theorem dX9_over_9 : decode cX9_over 9 = .ok (.getfield 158, 3) := by decide +kernel
theorem dX9_over_12 : decode cX9_over 12 = .ok (.iconst 1, 1) := by decide +kernel
theorem dX9_over_13 : decode cX9_over 13 = .ok (.iadd, 1) := by decide +kernel
theorem dX9_over_14 : decode cX9_over 14 = .ok (.putfield 158, 3) := by decide +kernel
theorem dX9_over_17 : decode cX9_over 17 = .ok (.aload_n 0, 1) := by decide +kernel
theorem dX9_over_18 : decode cX9_over 18 = .ok (.aload_n 0, 1) := by decide +kernel
theorem dX9_over_19 : decode cX9_over 19 = .ok (.getfield 155, 3) := by decide +kernel
theorem dX9_over_22 : decode cX9_over 22 = .ok (.iconst 1, 1) := by decide +kernel
theorem dX9_over_23 : decode cX9_over 23 = .ok (.iadd, 1) := by decide +kernel
theorem dX9_over_24 : decode cX9_over 24 = .ok (.putfield 155, 3) := by decide +kernel
theorem dX9_over_27 : decode cX9_over 27 = .ok (.aload_n 0, 1) := by decide +kernel
theorem dX9_over_28 : decode cX9_over 28 = .ok (.getfield 88, 3) := by decide +kernel
theorem dX9_over_31 : decode cX9_over 31 = .ok (.iload_n 3, 1) := by decide +kernel
theorem dX9_over_32 : decode cX9_over 32 = .ok (.iconst 1, 1) := by decide +kernel
theorem dX9_over_33 : decode cX9_over 33 = .ok (.bastore, 1) := by decide +kernel
theorem dX9_over_34 : decode cX9_over 34 = .ok (.aload_n 0, 1) := by decide +kernel
theorem dX9_over_35 : decode cX9_over 35 = .ok (.getfield 91, 3) := by decide +kernel
theorem dX9_over_38 : decode cX9_over 38 = .ok (.iload_n 3, 1) := by decide +kernel
theorem dX9_over_39 : decode cX9_over 39 = .ok (.iload_n 2, 1) := by decide +kernel
theorem dX9_over_40 : decode cX9_over 40 = .ok (.iastore, 1) := by decide +kernel
theorem dX9_over_41 : decode cX9_over 41 = .ok (.aload_n 0, 1) := by decide +kernel
theorem dX9_over_42 : decode cX9_over 42 = .ok (.getfield 97, 3) := by decide +kernel
theorem dX9_over_45 : decode cX9_over 45 = .ok (.iload_n 3, 1) := by decide +kernel
theorem dX9_over_46 : decode cX9_over 46 = .ok (.aload_n 0, 1) := by decide +kernel
theorem dX9_over_47 : decode cX9_over 47 = .ok (.getfield 158, 3) := by decide +kernel
theorem dX9_over_50 : decode cX9_over 50 = .ok (.iastore, 1) := by decide +kernel
theorem dX9_over_51 : decode cX9_over 51 = .ok (.aload_n 0, 1) := by decide +kernel
theorem dX9_over_52 : decode cX9_over 52 = .ok (.getfield 103, 3) := by decide +kernel
theorem dX9_over_55 : decode cX9_over 55 = .ok (.iload_n 1, 1) := by decide +kernel
theorem dX9_over_56 : decode cX9_over 56 = .ok (.iconst (-1), 1) := by decide +kernel
theorem dX9_over_57 : decode cX9_over 57 = .ok (.iastore, 1) := by decide +kernel
theorem dX9_over_58 : decode cX9_over 58 = .ok (.aload_n 0, 1) := by decide +kernel
theorem dX9_over_59 : decode cX9_over 59 = .ok (.getfield 115, 3) := by decide +kernel
theorem dX9_over_62 : decode cX9_over 62 = .ok (.iload_n 1, 1) := by decide +kernel
theorem dX9_over_63 : decode cX9_over 63 = .ok (.iconst 0, 1) := by decide +kernel
theorem dX9_over_64 : decode cX9_over 64 = .ok (.iastore, 1) := by decide +kernel
theorem dX9_over_65 : decode cX9_over 65 = .ok (.return_, 1) := by decide +kernel
theorem dX9_mayBegin_0 : decode cX9_mayBegin 0 = .ok (.aload_n 0, 1) := by decide +kernel
theorem dX9_mayBegin_1 : decode cX9_mayBegin 1 = .ok (.iload_n 1, 1) := by decide +kernel
theorem dX9_mayBegin_2 : decode cX9_mayBegin 2 = .ok (.invokevirtual 201, 3) := by decide +kernel
theorem dX9_mayBegin_5 : decode cX9_mayBegin 5 = .ok (.ifCond .eq 38, 3) := by decide +kernel
theorem dX9_mayBegin_8 : decode cX9_mayBegin 8 = .ok (.aload_n 0, 1) := by decide +kernel
theorem dX9_mayBegin_9 : decode cX9_mayBegin 9 = .ok (.getfield 103, 3) := by decide +kernel
theorem dX9_mayBegin_12 : decode cX9_mayBegin 12 = .ok (.iload_n 1, 1) := by decide +kernel
theorem dX9_mayBegin_13 : decode cX9_mayBegin 13 = .ok (.iaload, 1) := by decide +kernel
theorem dX9_mayBegin_14 : decode cX9_mayBegin 14 = .ok (.iconst (-1), 1) := by decide +kernel
theorem dX9_mayBegin_15 : decode cX9_mayBegin 15 = .ok (.if_icmp .ne 28, 3) := by decide +kernel
theorem dX9_mayBegin_18 : decode cX9_mayBegin 18 = .ok (.aload_n 0, 1) := by decide +kernel
theorem dX9_mayBegin_19 : decode cX9_mayBegin 19 = .ok (.getfield 17, 3) := by decide +kernel
theorem dX9_mayBegin_22 : decode cX9_mayBegin 22 = .ok (.bipush 7, 2) := by decide +kernel
theorem dX9_mayBegin_24 : decode cX9_mayBegin 24 = .ok (.iload_n 1, 1) := by decide +kernel
theorem dX9_mayBegin_25 : decode cX9_mayBegin 25 = .ok (.iadd, 1) := by decide +kernel
theorem dX9_mayBegin_26 : decode cX9_mayBegin 26 = .ok (.baload, 1) := by decide +kernel
theorem dX9_mayBegin_27 : decode cX9_mayBegin 27 = .ok (.ifCond .ne 16, 3) := by decide +kernel
theorem dX9_mayBegin_30 : decode cX9_mayBegin 30 = .ok (.aload_n 0, 1) := by decide +kernel
theorem dX9_mayBegin_31 : decode cX9_mayBegin 31 = .ok (.getfield 152, 3) := by decide +kernel
theorem dX9_mayBegin_34 : decode cX9_mayBegin 34 = .ok (.bipush 60, 2) := by decide +kernel
theorem dX9_mayBegin_36 : decode cX9_mayBegin 36 = .ok (.if_icmp .ge 7, 3) := by decide +kernel
theorem dX9_mayBegin_39 : decode cX9_mayBegin 39 = .ok (.iconst 1, 1) := by decide +kernel
theorem dX9_mayBegin_40 : decode cX9_mayBegin 40 = .ok (.goto 4, 3) := by decide +kernel
theorem dX9_mayBegin_43 : decode cX9_mayBegin 43 = .ok (.iconst 0, 1) := by decide +kernel
theorem dX9_mayBegin_44 : decode cX9_mayBegin 44 = .ok (.ireturn, 1) := by decide +kernel
theorem dX9_read_0 : decode cX9_read 0 = .ok (.aload_n 0, 1) := by decide +kernel
theorem dX9_read_1 : decode cX9_read 1 = .ok (.iconst 0, 1) := by decide +kernel
theorem dX9_read_2 : decode cX9_read 2 = .ok (.putfield 140, 3) := by decide +kernel
theorem dX9_read_5 : decode cX9_read 5 = .ok (.aload_n 0, 1) := by decide +kernel
theorem dX9_read_6 : decode cX9_read 6 = .ok (.iload_n 1, 1) := by decide +kernel
theorem dX9_read_7 : decode cX9_read 7 = .ok (.invokevirtual 204, 3) := by decide +kernel
theorem dX9_read_10 : decode cX9_read 10 = .ok (.ifCond .eq 22, 3) := by decide +kernel
theorem dX9_read_13 : decode cX9_read 13 = .ok (.aload_n 0, 1) := by decide +kernel
theorem dX9_read_14 : decode cX9_read 14 = .ok (.iload_n 2, 1) := by decide +kernel
theorem dX9_read_15 : decode cX9_read 15 = .ok (.invokevirtual 207, 3) := by decide +kernel
theorem dX9_read_18 : decode cX9_read 18 = .ok (.ifCond .eq 14, 3) := by decide +kernel
theorem dX9_read_21 : decode cX9_read 21 = .ok (.aload_n 0, 1) := by decide +kernel
theorem dX9_read_22 : decode cX9_read 22 = .ok (.iconst 0, 1) := by decide +kernel
theorem dX9_read_23 : decode cX9_read 23 = .ok (.iload_n 1, 1) := by decide +kernel
theorem dX9_read_24 : decode cX9_read 24 = .ok (.iload_n 2, 1) := by decide +kernel
theorem dX9_read_25 : decode cX9_read 25 = .ok (.iconst 0, 1) := by decide +kernel
theorem dX9_read_26 : decode cX9_read 26 = .ok (.invokevirtual 210, 3) := by decide +kernel
theorem dX9_read_29 : decode cX9_read 29 = .ok (.goto 4, 3) := by decide +kernel
theorem dX9_read_32 : decode cX9_read 32 = .ok (.iconst (-1), 1) := by decide +kernel
theorem dX9_read_33 : decode cX9_read 33 = .ok (.ireturn, 1) := by decide +kernel
theorem dX9_write_0 : decode cX9_write 0 = .ok (.aload_n 0, 1) := by decide +kernel
theorem dX9_write_1 : decode cX9_write 1 = .ok (.iconst 0, 1) := by decide +kernel
theorem dX9_write_2 : decode cX9_write 2 = .ok (.putfield 140, 3) := by decide +kernel
theorem dX9_write_5 : decode cX9_write 5 = .ok (.aload_n 0, 1) := by decide +kernel
theorem dX9_write_6 : decode cX9_write 6 = .ok (.iload_n 1, 1) := by decide +kernel
theorem dX9_write_7 : decode cX9_write 7 = .ok (.invokevirtual 204, 3) := by decide +kernel
theorem dX9_write_10 : decode cX9_write 10 = .ok (.ifCond .eq 22, 3) := by decide +kernel
theorem dX9_write_13 : decode cX9_write 13 = .ok (.aload_n 0, 1) := by decide +kernel
theorem dX9_write_14 : decode cX9_write 14 = .ok (.iload_n 2, 1) := by decide +kernel
theorem dX9_write_15 : decode cX9_write 15 = .ok (.invokevirtual 207, 3) := by decide +kernel
theorem dX9_write_18 : decode cX9_write 18 = .ok (.ifCond .eq 14, 3) := by decide +kernel
theorem dX9_write_21 : decode cX9_write 21 = .ok (.aload_n 0, 1) := by decide +kernel
theorem dX9_write_22 : decode cX9_write 22 = .ok (.iconst 1, 1) := by decide +kernel
theorem dX9_write_23 : decode cX9_write 23 = .ok (.iload_n 1, 1) := by decide +kernel
theorem dX9_write_24 : decode cX9_write 24 = .ok (.iload_n 2, 1) := by decide +kernel
theorem dX9_write_25 : decode cX9_write 25 = .ok (.iload_n 3, 1) := by decide +kernel
theorem dX9_write_26 : decode cX9_write 26 = .ok (.invokevirtual 210, 3) := by decide +kernel
theorem dX9_write_29 : decode cX9_write 29 = .ok (.goto 4, 3) := by decide +kernel
theorem dX9_write_32 : decode cX9_write 32 = .ok (.iconst (-1), 1) := by decide +kernel
theorem dX9_write_33 : decode cX9_write 33 = .ok (.ireturn, 1) := by decide +kernel
theorem dX9_change_0 : decode cX9_change 0 = .ok (.aload_n 0, 1) := by decide +kernel
theorem dX9_change_1 : decode cX9_change 1 = .ok (.iconst 0, 1) := by decide +kernel
theorem dX9_change_2 : decode cX9_change 2 = .ok (.putfield 140, 3) := by decide +kernel
theorem dX9_change_5 : decode cX9_change 5 = .ok (.aload_n 0, 1) := by decide +kernel
theorem dX9_change_6 : decode cX9_change 6 = .ok (.iload_n 1, 1) := by decide +kernel
theorem dX9_change_7 : decode cX9_change 7 = .ok (.invokevirtual 204, 3) := by decide +kernel
theorem dX9_change_10 : decode cX9_change 10 = .ok (.ifCond .eq 11, 3) := by decide +kernel
theorem dX9_change_13 : decode cX9_change 13 = .ok (.aload_n 0, 1) := by decide +kernel
theorem dX9_change_14 : decode cX9_change 14 = .ok (.iload_n 2, 1) := by decide +kernel
theorem dX9_change_15 : decode cX9_change 15 = .ok (.invokevirtual 214, 3) := by decide +kernel
theorem dX9_change_18 : decode cX9_change 18 = .ok (.ifCond .ne 5, 3) := by decide +kernel
theorem dX9_change_21 : decode cX9_change 21 = .ok (.iconst (-1), 1) := by decide +kernel
theorem dX9_change_22 : decode cX9_change 22 = .ok (.ireturn, 1) := by decide +kernel
theorem dX9_change_23 : decode cX9_change 23 = .ok (.iconst 5, 1) := by decide +kernel
theorem dX9_change_24 : decode cX9_change 24 = .ok (.istore_n 3, 1) := by decide +kernel
theorem dX9_change_25 : decode cX9_change 25 = .ok (.aload_n 0, 1) := by decide +kernel
theorem dX9_change_26 : decode cX9_change 26 = .ok (.iload_n 1, 1) := by decide +kernel
theorem dX9_change_27 : decode cX9_change 27 = .ok (.iload_n 3, 1) := by decide +kernel
theorem dX9_change_28 : decode cX9_change 28 = .ok (.invokevirtual 169, 3) := by decide +kernel
theorem dX9_change_31 : decode cX9_change 31 = .ok (.ifCond .ne 10, 3) := by decide +kernel
theorem dX9_change_34 : decode cX9_change 34 = .ok (.iload_n 3, 1) := by decide +kernel
theorem dX9_change_35 : decode cX9_change 35 = .ok (.iconst 1, 1) := by decide +kernel
theorem dX9_change_36 : decode cX9_change 36 = .ok (.isub, 1) := by decide +kernel
theorem dX9_change_37 : decode cX9_change 37 = .ok (.istore_n 3, 1) := by decide +kernel
theorem dX9_change_38 : decode cX9_change 38 = .ok (.goto (-13), 3) := by decide +kernel
theorem dX9_change_41 : decode cX9_change 41 = .ok (.iload_n 3, 1) := by decide +kernel
theorem dX9_change_42 : decode cX9_change 42 = .ok (.iconst 5, 1) := by decide +kernel
theorem dX9_change_43 : decode cX9_change 43 = .ok (.if_icmp .ne 5, 3) := by decide +kernel
theorem dX9_change_46 : decode cX9_change 46 = .ok (.iconst (-1), 1) := by decide +kernel
theorem dX9_change_47 : decode cX9_change 47 = .ok (.ireturn, 1) := by decide +kernel
theorem dX9_change_48 : decode cX9_change 48 = .ok (.aload_n 0, 1) := by decide +kernel
theorem dX9_change_49 : decode cX9_change 49 = .ok (.getfield 121, 3) := by decide +kernel
theorem dX9_change_52 : decode cX9_change 52 = .ok (.iload_n 1, 1) := by decide +kernel
theorem dX9_change_53 : decode cX9_change 53 = .ok (.iload_n 3, 1) := by decide +kernel
theorem dX9_change_54 : decode cX9_change 54 = .ok (.iastore, 1) := by decide +kernel
theorem dX9_change_55 : decode cX9_change 55 = .ok (.aload_n 0, 1) := by decide +kernel
theorem dX9_change_56 : decode cX9_change 56 = .ok (.getfield 118, 3) := by decide +kernel
theorem dX9_change_59 : decode cX9_change 59 = .ok (.iload_n 1, 1) := by decide +kernel
theorem dX9_change_60 : decode cX9_change 60 = .ok (.iconst 4, 1) := by decide +kernel
theorem dX9_change_61 : decode cX9_change 61 = .ok (.iload_n 1, 1) := by decide +kernel
theorem dX9_change_62 : decode cX9_change 62 = .ok (.iadd, 1) := by decide +kernel
theorem dX9_change_63 : decode cX9_change 63 = .ok (.iastore, 1) := by decide +kernel
theorem dX9_change_64 : decode cX9_change 64 = .ok (.aload_n 0, 1) := by decide +kernel
theorem dX9_change_65 : decode cX9_change 65 = .ok (.iconst 2, 1) := by decide +kernel
theorem dX9_change_66 : decode cX9_change 66 = .ok (.iload_n 1, 1) := by decide +kernel
theorem dX9_change_67 : decode cX9_change 67 = .ok (.iload_n 2, 1) := by decide +kernel
theorem dX9_change_68 : decode cX9_change 68 = .ok (.iconst 0, 1) := by decide +kernel
theorem dX9_change_69 : decode cX9_change 69 = .ok (.invokevirtual 210, 3) := by decide +kernel
theorem dX9_change_72 : decode cX9_change 72 = .ok (.ireturn, 1) := by decide +kernel
theorem dX9_move_0 : decode cX9_move 0 = .ok (.aload_n 0, 1) := by decide +kernel
theorem dX9_move_1 : decode cX9_move 1 = .ok (.iconst 0, 1) := by decide +kernel
theorem dX9_move_2 : decode cX9_move 2 = .ok (.putfield 140, 3) := by decide +kernel
theorem dX9_move_5 : decode cX9_move 5 = .ok (.aload_n 0, 1) := by decide +kernel
theorem dX9_move_6 : decode cX9_move 6 = .ok (.iload_n 1, 1) := by decide +kernel
theorem dX9_move_7 : decode cX9_move 7 = .ok (.invokevirtual 204, 3) := by decide +kernel
theorem dX9_move_10 : decode cX9_move 10 = .ok (.ifCond .ne 5, 3) := by decide +kernel
theorem dX9_move_13 : decode cX9_move 13 = .ok (.iconst (-1), 1) := by decide +kernel
theorem dX9_move_14 : decode cX9_move 14 = .ok (.ireturn, 1) := by decide +kernel
theorem dX9_move_15 : decode cX9_move 15 = .ok (.iconst 0, 1) := by decide +kernel
theorem dX9_move_16 : decode cX9_move 16 = .ok (.istore_n 2, 1) := by decide +kernel
theorem dX9_move_17 : decode cX9_move 17 = .ok (.iload_n 2, 1) := by decide +kernel
theorem dX9_move_18 : decode cX9_move 18 = .ok (.bipush 6, 2) := by decide +kernel
theorem dX9_move_20 : decode cX9_move 20 = .ok (.if_icmp .ge 19, 3) := by decide +kernel
theorem dX9_move_23 : decode cX9_move 23 = .ok (.aload_n 0, 1) := by decide +kernel
theorem dX9_move_24 : decode cX9_move 24 = .ok (.iload_n 1, 1) := by decide +kernel
theorem dX9_move_25 : decode cX9_move 25 = .ok (.iload_n 2, 1) := by decide +kernel
theorem dX9_move_26 : decode cX9_move 26 = .ok (.invokevirtual 169, 3) := by decide +kernel
theorem dX9_move_29 : decode cX9_move 29 = .ok (.ifCond .gt 10, 3) := by decide +kernel
theorem dX9_move_32 : decode cX9_move 32 = .ok (.iload_n 2, 1) := by decide +kernel
theorem dX9_move_33 : decode cX9_move 33 = .ok (.iconst 1, 1) := by decide +kernel
theorem dX9_move_34 : decode cX9_move 34 = .ok (.iadd, 1) := by decide +kernel
theorem dX9_move_35 : decode cX9_move 35 = .ok (.istore_n 2, 1) := by decide +kernel
theorem dX9_move_36 : decode cX9_move 36 = .ok (.goto (-19), 3) := by decide +kernel
theorem dX9_move_39 : decode cX9_move 39 = .ok (.iload_n 2, 1) := by decide +kernel
theorem dX9_move_40 : decode cX9_move 40 = .ok (.iconst 5, 1) := by decide +kernel
theorem dX9_move_41 : decode cX9_move 41 = .ok (.if_icmp .ge 14, 3) := by decide +kernel
theorem dX9_move_44 : decode cX9_move 44 = .ok (.aload_n 0, 1) := by decide +kernel
theorem dX9_move_45 : decode cX9_move 45 = .ok (.iload_n 1, 1) := by decide +kernel
theorem dX9_move_46 : decode cX9_move 46 = .ok (.iload_n 2, 1) := by decide +kernel
theorem dX9_move_47 : decode cX9_move 47 = .ok (.iconst 1, 1) := by decide +kernel
theorem dX9_move_48 : decode cX9_move 48 = .ok (.iadd, 1) := by decide +kernel
theorem dX9_move_49 : decode cX9_move 49 = .ok (.invokevirtual 169, 3) := by decide +kernel
theorem dX9_move_52 : decode cX9_move 52 = .ok (.ifCond .gt 5, 3) := by decide +kernel
theorem dX9_move_55 : decode cX9_move 55 = .ok (.iconst (-1), 1) := by decide +kernel
theorem dX9_move_56 : decode cX9_move 56 = .ok (.ireturn, 1) := by decide +kernel
theorem dX9_move_57 : decode cX9_move 57 = .ok (.aload_n 0, 1) := by decide +kernel
theorem dX9_move_58 : decode cX9_move 58 = .ok (.getfield 121, 3) := by decide +kernel
theorem dX9_move_61 : decode cX9_move 61 = .ok (.iload_n 1, 1) := by decide +kernel
theorem dX9_move_62 : decode cX9_move 62 = .ok (.iload_n 2, 1) := by decide +kernel
theorem dX9_move_63 : decode cX9_move 63 = .ok (.iastore, 1) := by decide +kernel
theorem dX9_move_64 : decode cX9_move 64 = .ok (.aload_n 0, 1) := by decide +kernel
theorem dX9_move_65 : decode cX9_move 65 = .ok (.getfield 124, 3) := by decide +kernel
theorem dX9_move_68 : decode cX9_move 68 = .ok (.iload_n 1, 1) := by decide +kernel
theorem dX9_move_69 : decode cX9_move 69 = .ok (.aload_n 0, 1) := by decide +kernel
theorem dX9_move_70 : decode cX9_move 70 = .ok (.iload_n 1, 1) := by decide +kernel
theorem dX9_move_71 : decode cX9_move 71 = .ok (.iload_n 2, 1) := by decide +kernel
theorem dX9_move_72 : decode cX9_move 72 = .ok (.iconst 1, 1) := by decide +kernel
theorem dX9_move_73 : decode cX9_move 73 = .ok (.iadd, 1) := by decide +kernel
theorem dX9_move_74 : decode cX9_move 74 = .ok (.invokevirtual 169, 3) := by decide +kernel
theorem dX9_move_77 : decode cX9_move 77 = .ok (.iastore, 1) := by decide +kernel
theorem dX9_move_78 : decode cX9_move 78 = .ok (.aload_n 0, 1) := by decide +kernel
theorem dX9_move_79 : decode cX9_move 79 = .ok (.iconst 3, 1) := by decide +kernel
theorem dX9_move_80 : decode cX9_move 80 = .ok (.iload_n 1, 1) := by decide +kernel
theorem dX9_move_81 : decode cX9_move 81 = .ok (.iload_n 2, 1) := by decide +kernel
theorem dX9_move_82 : decode cX9_move 82 = .ok (.iconst 0, 1) := by decide +kernel
theorem dX9_move_83 : decode cX9_move 83 = .ok (.invokevirtual 210, 3) := by decide +kernel
theorem dX9_move_86 : decode cX9_move 86 = .ok (.ireturn, 1) := by decide +kernel
theorem dX9_news_0 : decode cX9_news 0 = .ok (.iconst 0, 1) := by decide +kernel
theorem dX9_news_1 : decode cX9_news 1 = .ok (.istore 4, 2) := by decide +kernel
theorem dX9_news_3 : decode cX9_news 3 = .ok (.iload 4, 2) := by decide +kernel
theorem dX9_news_5 : decode cX9_news 5 = .ok (.bipush 7, 2) := by decide +kernel
theorem dX9_news_7 : decode cX9_news 7 = .ok (.if_icmp .ge 37, 3) := by decide +kernel
theorem dX9_news_10 : decode cX9_news 10 = .ok (.iload_n 2, 1) := by decide +kernel
theorem dX9_news_11 : decode cX9_news 11 = .ok (.iload_n 3, 1) := by decide +kernel
theorem dX9_news_12 : decode cX9_news 12 = .ok (.ior, 1) := by decide +kernel
theorem dX9_news_13 : decode cX9_news 13 = .ok (.iload 4, 2) := by decide +kernel
theorem dX9_news_15 : decode cX9_news 15 = .ok (.ishr, 1) := by decide +kernel
theorem dX9_news_16 : decode cX9_news 16 = .ok (.iconst 1, 1) := by decide +kernel
theorem dX9_news_17 : decode cX9_news 17 = .ok (.iand, 1) := by decide +kernel
theorem dX9_news_18 : decode cX9_news 18 = .ok (.iconst 1, 1) := by decide +kernel
theorem dX9_news_19 : decode cX9_news 19 = .ok (.if_icmp .ne 19, 3) := by decide +kernel
theorem dX9_news_22 : decode cX9_news 22 = .ok (.aload_n 0, 1) := by decide +kernel
theorem dX9_news_23 : decode cX9_news 23 = .ok (.bipush 6, 2) := by decide +kernel
theorem dX9_news_25 : decode cX9_news 25 = .ok (.iload 4, 2) := by decide +kernel
theorem dX9_news_27 : decode cX9_news 27 = .ok (.iload_n 1, 1) := by decide +kernel
theorem dX9_news_28 : decode cX9_news 28 = .ok (.iconst 0, 1) := by decide +kernel
theorem dX9_news_29 : decode cX9_news 29 = .ok (.iconst 0, 1) := by decide +kernel
theorem dX9_news_30 : decode cX9_news 30 = .ok (.bipush 7, 2) := by decide +kernel
theorem dX9_news_32 : decode cX9_news 32 = .ok (.iload_n 1, 1) := by decide +kernel
theorem dX9_news_33 : decode cX9_news 33 = .ok (.iadd, 1) := by decide +kernel
theorem dX9_news_34 : decode cX9_news 34 = .ok (.invokevirtual 183, 3) := by decide +kernel
theorem dX9_news_37 : decode cX9_news 37 = .ok (.pop, 1) := by decide +kernel
theorem dX9_news_38 : decode cX9_news 38 = .ok (.iinc 4 1, 3) := by decide +kernel
theorem dX9_news_41 : decode cX9_news 41 = .ok (.goto (-38), 3) := by decide +kernel
theorem dX9_news_44 : decode cX9_news 44 = .ok (.return_, 1) := by decide +kernel
theorem dX9_takeOut_0 : decode cX9_takeOut 0 = .ok (.aload_n 0, 1) := by decide +kernel
theorem dX9_takeOut_1 : decode cX9_takeOut 1 = .ok (.aload_n 0, 1) := by decide +kernel
theorem dX9_takeOut_2 : decode cX9_takeOut 2 = .ok (.getfield 36, 3) := by decide +kernel
theorem dX9_takeOut_5 : decode cX9_takeOut 5 = .ok (.iload_n 1, 1) := by decide +kernel
theorem dX9_takeOut_6 : decode cX9_takeOut 6 = .ok (.iaload, 1) := by decide +kernel
theorem dX9_takeOut_7 : decode cX9_takeOut 7 = .ok (.putfield 217, 3) := by decide +kernel
theorem dX9_takeOut_10 : decode cX9_takeOut 10 = .ok (.aload_n 0, 1) := by decide +kernel
theorem dX9_takeOut_11 : decode cX9_takeOut 11 = .ok (.aload_n 0, 1) := by decide +kernel
theorem dX9_takeOut_12 : decode cX9_takeOut 12 = .ok (.getfield 39, 3) := by decide +kernel
theorem dX9_takeOut_15 : decode cX9_takeOut 15 = .ok (.iload_n 1, 1) := by decide +kernel
theorem dX9_takeOut_16 : decode cX9_takeOut 16 = .ok (.iaload, 1) := by decide +kernel
theorem dX9_takeOut_17 : decode cX9_takeOut 17 = .ok (.putfield 220, 3) := by decide +kernel
theorem dX9_takeOut_20 : decode cX9_takeOut 20 = .ok (.aload_n 0, 1) := by decide +kernel
theorem dX9_takeOut_21 : decode cX9_takeOut 21 = .ok (.aload_n 0, 1) := by decide +kernel
theorem dX9_takeOut_22 : decode cX9_takeOut 22 = .ok (.getfield 42, 3) := by decide +kernel
theorem dX9_takeOut_25 : decode cX9_takeOut 25 = .ok (.iload_n 1, 1) := by decide +kernel
theorem dX9_takeOut_26 : decode cX9_takeOut 26 = .ok (.iaload, 1) := by decide +kernel
theorem dX9_takeOut_27 : decode cX9_takeOut 27 = .ok (.putfield 223, 3) := by decide +kernel
theorem dX9_takeOut_30 : decode cX9_takeOut 30 = .ok (.aload_n 0, 1) := by decide +kernel
theorem dX9_takeOut_31 : decode cX9_takeOut 31 = .ok (.aload_n 0, 1) := by decide +kernel
theorem dX9_takeOut_32 : decode cX9_takeOut 32 = .ok (.getfield 45, 3) := by decide +kernel
theorem dX9_takeOut_35 : decode cX9_takeOut 35 = .ok (.iload_n 1, 1) := by decide +kernel
theorem dX9_takeOut_36 : decode cX9_takeOut 36 = .ok (.iaload, 1) := by decide +kernel
theorem dX9_takeOut_37 : decode cX9_takeOut 37 = .ok (.putfield 226, 3) := by decide +kernel
theorem dX9_takeOut_40 : decode cX9_takeOut 40 = .ok (.aload_n 0, 1) := by decide +kernel
theorem dX9_takeOut_41 : decode cX9_takeOut 41 = .ok (.aload_n 0, 1) := by decide +kernel
theorem dX9_takeOut_42 : decode cX9_takeOut 42 = .ok (.getfield 48, 3) := by decide +kernel
theorem dX9_takeOut_45 : decode cX9_takeOut 45 = .ok (.iload_n 1, 1) := by decide +kernel
theorem dX9_takeOut_46 : decode cX9_takeOut 46 = .ok (.iaload, 1) := by decide +kernel
theorem dX9_takeOut_47 : decode cX9_takeOut 47 = .ok (.putfield 229, 3) := by decide +kernel
theorem dX9_takeOut_50 : decode cX9_takeOut 50 = .ok (.aload_n 0, 1) := by decide +kernel
theorem dX9_takeOut_51 : decode cX9_takeOut 51 = .ok (.aload_n 0, 1) := by decide +kernel
theorem dX9_takeOut_52 : decode cX9_takeOut 52 = .ok (.getfield 51, 3) := by decide +kernel
theorem dX9_takeOut_55 : decode cX9_takeOut 55 = .ok (.iload_n 1, 1) := by decide +kernel
theorem dX9_takeOut_56 : decode cX9_takeOut 56 = .ok (.iaload, 1) := by decide +kernel
theorem dX9_takeOut_57 : decode cX9_takeOut 57 = .ok (.putfield 232, 3) := by decide +kernel
theorem dX9_takeOut_60 : decode cX9_takeOut 60 = .ok (.aload_n 0, 1) := by decide +kernel
theorem dX9_takeOut_61 : decode cX9_takeOut 61 = .ok (.aload_n 0, 1) := by decide +kernel
theorem dX9_takeOut_62 : decode cX9_takeOut 62 = .ok (.getfield 54, 3) := by decide +kernel
theorem dX9_takeOut_65 : decode cX9_takeOut 65 = .ok (.iload_n 1, 1) := by decide +kernel
theorem dX9_takeOut_66 : decode cX9_takeOut 66 = .ok (.iaload, 1) := by decide +kernel
theorem dX9_takeOut_67 : decode cX9_takeOut 67 = .ok (.putfield 235, 3) := by decide +kernel
theorem dX9_takeOut_70 : decode cX9_takeOut 70 = .ok (.aload_n 0, 1) := by decide +kernel
theorem dX9_takeOut_71 : decode cX9_takeOut 71 = .ok (.aload_n 0, 1) := by decide +kernel
theorem dX9_takeOut_72 : decode cX9_takeOut 72 = .ok (.getfield 57, 3) := by decide +kernel
theorem dX9_takeOut_75 : decode cX9_takeOut 75 = .ok (.iload_n 1, 1) := by decide +kernel
theorem dX9_takeOut_76 : decode cX9_takeOut 76 = .ok (.iaload, 1) := by decide +kernel
theorem dX9_takeOut_77 : decode cX9_takeOut 77 = .ok (.putfield 238, 3) := by decide +kernel
theorem dX9_takeOut_80 : decode cX9_takeOut 80 = .ok (.aload_n 0, 1) := by decide +kernel
theorem dX9_takeOut_81 : decode cX9_takeOut 81 = .ok (.aload_n 0, 1) := by decide +kernel
theorem dX9_takeOut_82 : decode cX9_takeOut 82 = .ok (.getfield 60, 3) := by decide +kernel
theorem dX9_takeOut_85 : decode cX9_takeOut 85 = .ok (.iload_n 1, 1) := by decide +kernel
theorem dX9_takeOut_86 : decode cX9_takeOut 86 = .ok (.iaload, 1) := by decide +kernel
theorem dX9_takeOut_87 : decode cX9_takeOut 87 = .ok (.putfield 241, 3) := by decide +kernel
theorem dX9_takeOut_90 : decode cX9_takeOut 90 = .ok (.aload_n 0, 1) := by decide +kernel
theorem dX9_takeOut_91 : decode cX9_takeOut 91 = .ok (.aload_n 0, 1) := by decide +kernel
theorem dX9_takeOut_92 : decode cX9_takeOut 92 = .ok (.getfield 63, 3) := by decide +kernel
theorem dX9_takeOut_95 : decode cX9_takeOut 95 = .ok (.iload_n 1, 1) := by decide +kernel
theorem dX9_takeOut_96 : decode cX9_takeOut 96 = .ok (.iaload, 1) := by decide +kernel
theorem dX9_takeOut_97 : decode cX9_takeOut 97 = .ok (.putfield 244, 3) := by decide +kernel
theorem dX9_takeOut_100 : decode cX9_takeOut 100 = .ok (.aload_n 0, 1) := by decide +kernel
theorem dX9_takeOut_101 : decode cX9_takeOut 101 = .ok (.aload_n 0, 1) := by decide +kernel
theorem dX9_takeOut_102 : decode cX9_takeOut 102 = .ok (.getfield 66, 3) := by decide +kernel
theorem dX9_takeOut_105 : decode cX9_takeOut 105 = .ok (.iload_n 1, 1) := by decide +kernel
theorem dX9_takeOut_106 : decode cX9_takeOut 106 = .ok (.iaload, 1) := by decide +kernel
theorem dX9_takeOut_107 : decode cX9_takeOut 107 = .ok (.putfield 247, 3) := by decide +kernel
theorem dX9_takeOut_110 : decode cX9_takeOut 110 = .ok (.aload_n 0, 1) := by decide +kernel
theorem dX9_takeOut_111 : decode cX9_takeOut 111 = .ok (.aload_n 0, 1) := by decide +kernel
theorem dX9_takeOut_112 : decode cX9_takeOut 112 = .ok (.getfield 69, 3) := by decide +kernel
theorem dX9_takeOut_115 : decode cX9_takeOut 115 = .ok (.iload_n 1, 1) := by decide +kernel
theorem dX9_takeOut_116 : decode cX9_takeOut 116 = .ok (.baload, 1) := by decide +kernel
theorem dX9_takeOut_117 : decode cX9_takeOut 117 = .ok (.putfield 250, 3) := by decide +kernel
theorem dX9_takeOut_120 : decode cX9_takeOut 120 = .ok (.return_, 1) := by decide +kernel
theorem dX9_has_0 : decode cX9_has 0 = .ok (.aload_n 0, 1) := by decide +kernel
theorem dX9_has_1 : decode cX9_has 1 = .ok (.getfield 21, 3) := by decide +kernel
theorem dX9_has_4 : decode cX9_has 4 = .ok (.iconst 3, 1) := by decide +kernel
theorem dX9_has_5 : decode cX9_has 5 = .ok (.iload_n 1, 1) := by decide +kernel
theorem dX9_has_6 : decode cX9_has 6 = .ok (.imul, 1) := by decide +kernel
theorem dX9_has_7 : decode cX9_has 7 = .ok (.iload_n 2, 1) := by decide +kernel
theorem dX9_has_8 : decode cX9_has 8 = .ok (.iadd, 1) := by decide +kernel
theorem dX9_has_9 : decode cX9_has 9 = .ok (.iaload, 1) := by decide +kernel
theorem dX9_has_10 : decode cX9_has 10 = .ok (.iload_n 3, 1) := by decide +kernel
theorem dX9_has_11 : decode cX9_has 11 = .ok (.if_icmp .lt 4, 3) := by decide +kernel
theorem dX9_has_14 : decode cX9_has 14 = .ok (.return_, 1) := by decide +kernel
theorem dX9_has_15 : decode cX9_has 15 = .ok (.aload_n 0, 1) := by decide +kernel
theorem dX9_has_16 : decode cX9_has 16 = .ok (.getfield 21, 3) := by decide +kernel
theorem dX9_has_19 : decode cX9_has 19 = .ok (.iconst 3, 1) := by decide +kernel
theorem dX9_has_20 : decode cX9_has 20 = .ok (.iload_n 1, 1) := by decide +kernel
theorem dX9_has_21 : decode cX9_has 21 = .ok (.imul, 1) := by decide +kernel
theorem dX9_has_22 : decode cX9_has 22 = .ok (.iload_n 2, 1) := by decide +kernel
theorem dX9_has_23 : decode cX9_has 23 = .ok (.iadd, 1) := by decide +kernel
theorem dX9_has_24 : decode cX9_has 24 = .ok (.iload_n 3, 1) := by decide +kernel
theorem dX9_has_25 : decode cX9_has 25 = .ok (.iastore, 1) := by decide +kernel
theorem dX9_has_26 : decode cX9_has 26 = .ok (.aload_n 0, 1) := by decide +kernel
theorem dX9_has_27 : decode cX9_has 27 = .ok (.getfield 24, 3) := by decide +kernel
theorem dX9_has_30 : decode cX9_has 30 = .ok (.iconst 3, 1) := by decide +kernel
theorem dX9_has_31 : decode cX9_has 31 = .ok (.iload_n 1, 1) := by decide +kernel
theorem dX9_has_32 : decode cX9_has 32 = .ok (.imul, 1) := by decide +kernel
theorem dX9_has_33 : decode cX9_has 33 = .ok (.iload_n 2, 1) := by decide +kernel
theorem dX9_has_34 : decode cX9_has 34 = .ok (.iadd, 1) := by decide +kernel
theorem dX9_has_35 : decode cX9_has 35 = .ok (.iload 4, 2) := by decide +kernel
theorem dX9_has_37 : decode cX9_has 37 = .ok (.iastore, 1) := by decide +kernel
theorem dX9_has_38 : decode cX9_has 38 = .ok (.return_, 1) := by decide +kernel
theorem dX9_serverGets_0 : decode cX9_serverGets 0 = .ok (.aload_n 0, 1) := by decide +kernel
theorem dX9_serverGets_1 : decode cX9_serverGets 1 = .ok (.getfield 220, 3) := by decide +kernel
theorem dX9_serverGets_4 : decode cX9_serverGets 4 = .ok (.istore_n 1, 1) := by decide +kernel
theorem dX9_serverGets_5 : decode cX9_serverGets 5 = .ok (.iconst (-1), 1) := by decide +kernel
theorem dX9_serverGets_6 : decode cX9_serverGets 6 = .ok (.istore_n 2, 1) := by decide +kernel
theorem dX9_serverGets_7 : decode cX9_serverGets 7 = .ok (.aload_n 0, 1) := by decide +kernel
theorem dX9_serverGets_8 : decode cX9_serverGets 8 = .ok (.getfield 217, 3) := by decide +kernel
theorem dX9_serverGets_11 : decode cX9_serverGets 11 = .ok (.iconst 1, 1) := by decide +kernel
theorem dX9_serverGets_12 : decode cX9_serverGets 12 = .ok (.if_icmp .ne 20, 3) := by decide +kernel
theorem dX9_serverGets_15 : decode cX9_serverGets 15 = .ok (.aload_n 0, 1) := by decide +kernel
theorem dX9_serverGets_16 : decode cX9_serverGets 16 = .ok (.iload_n 1, 1) := by decide +kernel
theorem dX9_serverGets_17 : decode cX9_serverGets 17 = .ok (.aload_n 0, 1) := by decide +kernel
theorem dX9_serverGets_18 : decode cX9_serverGets 18 = .ok (.getfield 229, 3) := by decide +kernel
theorem dX9_serverGets_21 : decode cX9_serverGets 21 = .ok (.aload_n 0, 1) := by decide +kernel
theorem dX9_serverGets_22 : decode cX9_serverGets 22 = .ok (.getfield 232, 3) := by decide +kernel
theorem dX9_serverGets_25 : decode cX9_serverGets 25 = .ok (.aload_n 0, 1) := by decide +kernel
theorem dX9_serverGets_26 : decode cX9_serverGets 26 = .ok (.getfield 235, 3) := by decide +kernel
theorem dX9_serverGets_29 : decode cX9_serverGets 29 = .ok (.invokevirtual 254, 3) := by decide +kernel
theorem dX9_serverGets_32 : decode cX9_serverGets 32 = .ok (.aload_n 0, 1) := by decide +kernel
theorem dX9_serverGets_33 : decode cX9_serverGets 33 = .ok (.getfield 217, 3) := by decide +kernel
theorem dX9_serverGets_36 : decode cX9_serverGets 36 = .ok (.iconst 5, 1) := by decide +kernel
theorem dX9_serverGets_37 : decode cX9_serverGets 37 = .ok (.if_icmp .ne 45, 3) := by decide +kernel
theorem dX9_serverGets_40 : decode cX9_serverGets 40 = .ok (.aload_n 0, 1) := by decide +kernel
theorem dX9_serverGets_41 : decode cX9_serverGets 41 = .ok (.iload_n 1, 1) := by decide +kernel
theorem dX9_serverGets_42 : decode cX9_serverGets 42 = .ok (.iconst 0, 1) := by decide +kernel
theorem dX9_serverGets_43 : decode cX9_serverGets 43 = .ok (.aload_n 0, 1) := by decide +kernel
theorem dX9_serverGets_44 : decode cX9_serverGets 44 = .ok (.getfield 232, 3) := by decide +kernel
theorem dX9_serverGets_47 : decode cX9_serverGets 47 = .ok (.aload_n 0, 1) := by decide +kernel
theorem dX9_serverGets_48 : decode cX9_serverGets 48 = .ok (.getfield 235, 3) := by decide +kernel
theorem dX9_serverGets_51 : decode cX9_serverGets 51 = .ok (.invokevirtual 254, 3) := by decide +kernel
theorem dX9_serverGets_54 : decode cX9_serverGets 54 = .ok (.aload_n 0, 1) := by decide +kernel
theorem dX9_serverGets_55 : decode cX9_serverGets 55 = .ok (.iload_n 1, 1) := by decide +kernel
theorem dX9_serverGets_56 : decode cX9_serverGets 56 = .ok (.iconst 1, 1) := by decide +kernel
theorem dX9_serverGets_57 : decode cX9_serverGets 57 = .ok (.aload_n 0, 1) := by decide +kernel
theorem dX9_serverGets_58 : decode cX9_serverGets 58 = .ok (.getfield 238, 3) := by decide +kernel
theorem dX9_serverGets_61 : decode cX9_serverGets 61 = .ok (.aload_n 0, 1) := by decide +kernel
theorem dX9_serverGets_62 : decode cX9_serverGets 62 = .ok (.getfield 241, 3) := by decide +kernel
theorem dX9_serverGets_65 : decode cX9_serverGets 65 = .ok (.invokevirtual 254, 3) := by decide +kernel
theorem dX9_serverGets_68 : decode cX9_serverGets 68 = .ok (.aload_n 0, 1) := by decide +kernel
theorem dX9_serverGets_69 : decode cX9_serverGets 69 = .ok (.iload_n 1, 1) := by decide +kernel
theorem dX9_serverGets_70 : decode cX9_serverGets 70 = .ok (.iconst 2, 1) := by decide +kernel
theorem dX9_serverGets_71 : decode cX9_serverGets 71 = .ok (.aload_n 0, 1) := by decide +kernel
theorem dX9_serverGets_72 : decode cX9_serverGets 72 = .ok (.getfield 244, 3) := by decide +kernel
theorem dX9_serverGets_75 : decode cX9_serverGets 75 = .ok (.aload_n 0, 1) := by decide +kernel
theorem dX9_serverGets_76 : decode cX9_serverGets 76 = .ok (.getfield 247, 3) := by decide +kernel
theorem dX9_serverGets_79 : decode cX9_serverGets 79 = .ok (.invokevirtual 254, 3) := by decide +kernel
theorem dX9_serverGets_82 : decode cX9_serverGets 82 = .ok (.iconst 1, 1) := by decide +kernel
theorem dX9_serverGets_83 : decode cX9_serverGets 83 = .ok (.istore_n 3, 1) := by decide +kernel
theorem dX9_serverGets_84 : decode cX9_serverGets 84 = .ok (.iconst 5, 1) := by decide +kernel
theorem dX9_serverGets_85 : decode cX9_serverGets 85 = .ok (.iload_n 1, 1) := by decide +kernel
theorem dX9_serverGets_86 : decode cX9_serverGets 86 = .ok (.imul, 1) := by decide +kernel
theorem dX9_serverGets_87 : decode cX9_serverGets 87 = .ok (.aload_n 0, 1) := by decide +kernel
theorem dX9_serverGets_88 : decode cX9_serverGets 88 = .ok (.getfield 229, 3) := by decide +kernel
theorem dX9_serverGets_91 : decode cX9_serverGets 91 = .ok (.iadd, 1) := by decide +kernel
theorem dX9_serverGets_92 : decode cX9_serverGets 92 = .ok (.istore 4, 2) := by decide +kernel
theorem dX9_serverGets_94 : decode cX9_serverGets 94 = .ok (.aload_n 0, 1) := by decide +kernel
theorem dX9_serverGets_95 : decode cX9_serverGets 95 = .ok (.getfield 217, 3) := by decide +kernel
theorem dX9_serverGets_98 : decode cX9_serverGets 98 = .ok (.iconst 2, 1) := by decide +kernel
theorem dX9_serverGets_99 : decode cX9_serverGets 99 = .ok (.if_icmp .ne 38, 3) := by decide +kernel
theorem dX9_serverGets_102 : decode cX9_serverGets 102 = .ok (.aload_n 0, 1) := by decide +kernel
theorem dX9_serverGets_103 : decode cX9_serverGets 103 = .ok (.getfield 27, 3) := by decide +kernel
theorem dX9_serverGets_106 : decode cX9_serverGets 106 = .ok (.iload 4, 2) := by decide +kernel
theorem dX9_serverGets_108 : decode cX9_serverGets 108 = .ok (.iaload, 1) := by decide +kernel
theorem dX9_serverGets_109 : decode cX9_serverGets 109 = .ok (.aload_n 0, 1) := by decide +kernel
theorem dX9_serverGets_110 : decode cX9_serverGets 110 = .ok (.getfield 232, 3) := by decide +kernel
theorem dX9_serverGets_113 : decode cX9_serverGets 113 = .ok (.if_icmp .ge 7, 3) := by decide +kernel
theorem dX9_serverGets_116 : decode cX9_serverGets 116 = .ok (.iconst 1, 1) := by decide +kernel
theorem dX9_serverGets_117 : decode cX9_serverGets 117 = .ok (.goto 4, 3) := by decide +kernel
theorem dX9_serverGets_120 : decode cX9_serverGets 120 = .ok (.iconst 0, 1) := by decide +kernel
theorem dX9_serverGets_121 : decode cX9_serverGets 121 = .ok (.istore_n 3, 1) := by decide +kernel
theorem dX9_serverGets_122 : decode cX9_serverGets 122 = .ok (.iload_n 3, 1) := by decide +kernel
theorem dX9_serverGets_123 : decode cX9_serverGets 123 = .ok (.ifCond .eq 14, 3) := by decide +kernel
theorem dX9_serverGets_126 : decode cX9_serverGets 126 = .ok (.aload_n 0, 1) := by decide +kernel
theorem dX9_serverGets_127 : decode cX9_serverGets 127 = .ok (.getfield 27, 3) := by decide +kernel
theorem dX9_serverGets_130 : decode cX9_serverGets 130 = .ok (.iload 4, 2) := by decide +kernel
theorem dX9_serverGets_132 : decode cX9_serverGets 132 = .ok (.aload_n 0, 1) := by decide +kernel
theorem dX9_serverGets_133 : decode cX9_serverGets 133 = .ok (.getfield 232, 3) := by decide +kernel
theorem dX9_serverGets_136 : decode cX9_serverGets 136 = .ok (.iastore, 1) := by decide +kernel
theorem dX9_serverGets_137 : decode cX9_serverGets 137 = .ok (.aload_n 0, 1) := by decide +kernel
theorem dX9_serverGets_138 : decode cX9_serverGets 138 = .ok (.getfield 217, 3) := by decide +kernel
theorem dX9_serverGets_141 : decode cX9_serverGets 141 = .ok (.iconst 3, 1) := by decide +kernel
theorem dX9_serverGets_142 : decode cX9_serverGets 142 = .ok (.if_icmp .ne 60, 3) := by decide +kernel
theorem dX9_serverGets_145 : decode cX9_serverGets 145 = .ok (.aload_n 0, 1) := by decide +kernel
theorem dX9_serverGets_146 : decode cX9_serverGets 146 = .ok (.getfield 27, 3) := by decide +kernel
theorem dX9_serverGets_149 : decode cX9_serverGets 149 = .ok (.iload 4, 2) := by decide +kernel
theorem dX9_serverGets_151 : decode cX9_serverGets 151 = .ok (.iaload, 1) := by decide +kernel
theorem dX9_serverGets_152 : decode cX9_serverGets 152 = .ok (.aload_n 0, 1) := by decide +kernel
theorem dX9_serverGets_153 : decode cX9_serverGets 153 = .ok (.getfield 232, 3) := by decide +kernel
theorem dX9_serverGets_156 : decode cX9_serverGets 156 = .ok (.if_icmp .gt 7, 3) := by decide +kernel
theorem dX9_serverGets_159 : decode cX9_serverGets 159 = .ok (.iconst 1, 1) := by decide +kernel
theorem dX9_serverGets_160 : decode cX9_serverGets 160 = .ok (.goto 4, 3) := by decide +kernel
theorem dX9_serverGets_163 : decode cX9_serverGets 163 = .ok (.iconst 0, 1) := by decide +kernel
theorem dX9_serverGets_164 : decode cX9_serverGets 164 = .ok (.istore_n 3, 1) := by decide +kernel
theorem dX9_serverGets_165 : decode cX9_serverGets 165 = .ok (.iload_n 3, 1) := by decide +kernel
theorem dX9_serverGets_166 : decode cX9_serverGets 166 = .ok (.ifCond .eq 36, 3) := by decide +kernel
theorem dX9_serverGets_169 : decode cX9_serverGets 169 = .ok (.aload_n 0, 1) := by decide +kernel
theorem dX9_serverGets_170 : decode cX9_serverGets 170 = .ok (.getfield 27, 3) := by decide +kernel
theorem dX9_serverGets_173 : decode cX9_serverGets 173 = .ok (.iload 4, 2) := by decide +kernel
theorem dX9_serverGets_175 : decode cX9_serverGets 175 = .ok (.aload_n 0, 1) := by decide +kernel
theorem dX9_serverGets_176 : decode cX9_serverGets 176 = .ok (.getfield 232, 3) := by decide +kernel
theorem dX9_serverGets_179 : decode cX9_serverGets 179 = .ok (.iastore, 1) := by decide +kernel
theorem dX9_serverGets_180 : decode cX9_serverGets 180 = .ok (.aload_n 0, 1) := by decide +kernel
theorem dX9_serverGets_181 : decode cX9_serverGets 181 = .ok (.getfield 30, 3) := by decide +kernel
theorem dX9_serverGets_184 : decode cX9_serverGets 184 = .ok (.iload 4, 2) := by decide +kernel
theorem dX9_serverGets_186 : decode cX9_serverGets 186 = .ok (.aload_n 0, 1) := by decide +kernel
theorem dX9_serverGets_187 : decode cX9_serverGets 187 = .ok (.getfield 232, 3) := by decide +kernel
theorem dX9_serverGets_190 : decode cX9_serverGets 190 = .ok (.iastore, 1) := by decide +kernel
theorem dX9_serverGets_191 : decode cX9_serverGets 191 = .ok (.aload_n 0, 1) := by decide +kernel
theorem dX9_serverGets_192 : decode cX9_serverGets 192 = .ok (.getfield 33, 3) := by decide +kernel
theorem dX9_serverGets_195 : decode cX9_serverGets 195 = .ok (.iload 4, 2) := by decide +kernel
theorem dX9_serverGets_197 : decode cX9_serverGets 197 = .ok (.aload_n 0, 1) := by decide +kernel
theorem dX9_serverGets_198 : decode cX9_serverGets 198 = .ok (.getfield 235, 3) := by decide +kernel
theorem dX9_serverGets_201 : decode cX9_serverGets 201 = .ok (.iastore, 1) := by decide +kernel
theorem dX9_serverGets_202 : decode cX9_serverGets 202 = .ok (.aload_n 0, 1) := by decide +kernel
theorem dX9_serverGets_203 : decode cX9_serverGets 203 = .ok (.getfield 217, 3) := by decide +kernel
theorem dX9_serverGets_206 : decode cX9_serverGets 206 = .ok (.bipush 6, 2) := by decide +kernel
theorem dX9_serverGets_208 : decode cX9_serverGets 208 = .ok (.if_icmp .ne 4, 3) := by decide +kernel
theorem dX9_serverGets_211 : decode cX9_serverGets 211 = .ok (.return_, 1) := by decide +kernel
theorem dX9_serverGets_212 : decode cX9_serverGets 212 = .ok (.aload_n 0, 1) := by decide +kernel
theorem dX9_serverGets_213 : decode cX9_serverGets 213 = .ok (.bipush 10, 2) := by decide +kernel
theorem dX9_serverGets_215 : decode cX9_serverGets 215 = .ok (.aload_n 0, 1) := by decide +kernel
theorem dX9_serverGets_216 : decode cX9_serverGets 216 = .ok (.getfield 217, 3) := by decide +kernel
theorem dX9_serverGets_219 : decode cX9_serverGets 219 = .ok (.iadd, 1) := by decide +kernel
theorem dX9_serverGets_220 : decode cX9_serverGets 220 = .ok (.iload_n 1, 1) := by decide +kernel
theorem dX9_serverGets_221 : decode cX9_serverGets 221 = .ok (.aload_n 0, 1) := by decide +kernel
theorem dX9_serverGets_222 : decode cX9_serverGets 222 = .ok (.getfield 223, 3) := by decide +kernel
theorem dX9_serverGets_225 : decode cX9_serverGets 225 = .ok (.aload_n 0, 1) := by decide +kernel
theorem dX9_serverGets_226 : decode cX9_serverGets 226 = .ok (.getfield 226, 3) := by decide +kernel
theorem dX9_serverGets_229 : decode cX9_serverGets 229 = .ok (.aload_n 0, 1) := by decide +kernel
theorem dX9_serverGets_230 : decode cX9_serverGets 230 = .ok (.getfield 229, 3) := by decide +kernel
theorem dX9_serverGets_233 : decode cX9_serverGets 233 = .ok (.iload_n 1, 1) := by decide +kernel
theorem dX9_serverGets_234 : decode cX9_serverGets 234 = .ok (.invokevirtual 183, 3) := by decide +kernel
theorem dX9_serverGets_237 : decode cX9_serverGets 237 = .ok (.istore_n 2, 1) := by decide +kernel
theorem dX9_serverGets_238 : decode cX9_serverGets 238 = .ok (.aload_n 0, 1) := by decide +kernel
theorem dX9_serverGets_239 : decode cX9_serverGets 239 = .ok (.getfield 69, 3) := by decide +kernel
theorem dX9_serverGets_242 : decode cX9_serverGets 242 = .ok (.iload_n 2, 1) := by decide +kernel
theorem dX9_serverGets_243 : decode cX9_serverGets 243 = .ok (.iload_n 3, 1) := by decide +kernel
theorem dX9_serverGets_244 : decode cX9_serverGets 244 = .ok (.ifCond .ne 7, 3) := by decide +kernel
theorem dX9_serverGets_247 : decode cX9_serverGets 247 = .ok (.iconst 1, 1) := by decide +kernel
theorem dX9_serverGets_248 : decode cX9_serverGets 248 = .ok (.goto 4, 3) := by decide +kernel
theorem dX9_serverGets_251 : decode cX9_serverGets 251 = .ok (.iconst 0, 1) := by decide +kernel
theorem dX9_serverGets_252 : decode cX9_serverGets 252 = .ok (.bastore, 1) := by decide +kernel
theorem dX9_serverGets_253 : decode cX9_serverGets 253 = .ok (.iload_n 3, 1) := by decide +kernel
theorem dX9_serverGets_254 : decode cX9_serverGets 254 = .ok (.ifCond .ne 16, 3) := by decide +kernel
theorem dX9_serverGets_257 : decode cX9_serverGets 257 = .ok (.aload_n 0, 1) := by decide +kernel
theorem dX9_serverGets_258 : decode cX9_serverGets 258 = .ok (.getfield 51, 3) := by decide +kernel
theorem dX9_serverGets_261 : decode cX9_serverGets 261 = .ok (.iload_n 2, 1) := by decide +kernel
theorem dX9_serverGets_262 : decode cX9_serverGets 262 = .ok (.aload_n 0, 1) := by decide +kernel
theorem dX9_serverGets_263 : decode cX9_serverGets 263 = .ok (.getfield 27, 3) := by decide +kernel
theorem dX9_serverGets_266 : decode cX9_serverGets 266 = .ok (.iload 4, 2) := by decide +kernel
theorem dX9_serverGets_268 : decode cX9_serverGets 268 = .ok (.iaload, 1) := by decide +kernel
theorem dX9_serverGets_269 : decode cX9_serverGets 269 = .ok (.iastore, 1) := by decide +kernel
theorem dX9_serverGets_270 : decode cX9_serverGets 270 = .ok (.iload_n 3, 1) := by decide +kernel
theorem dX9_serverGets_271 : decode cX9_serverGets 271 = .ok (.ifCond .eq 37, 3) := by decide +kernel
theorem dX9_serverGets_274 : decode cX9_serverGets 274 = .ok (.aload_n 0, 1) := by decide +kernel
theorem dX9_serverGets_275 : decode cX9_serverGets 275 = .ok (.getfield 217, 3) := by decide +kernel
theorem dX9_serverGets_278 : decode cX9_serverGets 278 = .ok (.iconst 2, 1) := by decide +kernel
theorem dX9_serverGets_279 : decode cX9_serverGets 279 = .ok (.if_icmp .ne 29, 3) := by decide +kernel
theorem dX9_serverGets_282 : decode cX9_serverGets 282 = .ok (.aload_n 0, 1) := by decide +kernel
theorem dX9_serverGets_283 : decode cX9_serverGets 283 = .ok (.getfield 51, 3) := by decide +kernel
theorem dX9_serverGets_286 : decode cX9_serverGets 286 = .ok (.iload_n 2, 1) := by decide +kernel
theorem dX9_serverGets_287 : decode cX9_serverGets 287 = .ok (.aload_n 0, 1) := by decide +kernel
theorem dX9_serverGets_288 : decode cX9_serverGets 288 = .ok (.getfield 30, 3) := by decide +kernel
theorem dX9_serverGets_291 : decode cX9_serverGets 291 = .ok (.iload 4, 2) := by decide +kernel
theorem dX9_serverGets_293 : decode cX9_serverGets 293 = .ok (.iaload, 1) := by decide +kernel
theorem dX9_serverGets_294 : decode cX9_serverGets 294 = .ok (.iastore, 1) := by decide +kernel
theorem dX9_serverGets_295 : decode cX9_serverGets 295 = .ok (.aload_n 0, 1) := by decide +kernel
theorem dX9_serverGets_296 : decode cX9_serverGets 296 = .ok (.getfield 54, 3) := by decide +kernel
theorem dX9_serverGets_299 : decode cX9_serverGets 299 = .ok (.iload_n 2, 1) := by decide +kernel
theorem dX9_serverGets_300 : decode cX9_serverGets 300 = .ok (.aload_n 0, 1) := by decide +kernel
theorem dX9_serverGets_301 : decode cX9_serverGets 301 = .ok (.getfield 33, 3) := by decide +kernel
theorem dX9_serverGets_304 : decode cX9_serverGets 304 = .ok (.iload 4, 2) := by decide +kernel
theorem dX9_serverGets_306 : decode cX9_serverGets 306 = .ok (.iaload, 1) := by decide +kernel
theorem dX9_serverGets_307 : decode cX9_serverGets 307 = .ok (.iastore, 1) := by decide +kernel
theorem dX9_serverGets_308 : decode cX9_serverGets 308 = .ok (.aload_n 0, 1) := by decide +kernel
theorem dX9_serverGets_309 : decode cX9_serverGets 309 = .ok (.getfield 217, 3) := by decide +kernel
theorem dX9_serverGets_312 : decode cX9_serverGets 312 = .ok (.ifCond .ne 41, 3) := by decide +kernel
theorem dX9_serverGets_315 : decode cX9_serverGets 315 = .ok (.aload_n 0, 1) := by decide +kernel
theorem dX9_serverGets_316 : decode cX9_serverGets 316 = .ok (.getfield 51, 3) := by decide +kernel
theorem dX9_serverGets_319 : decode cX9_serverGets 319 = .ok (.iload_n 2, 1) := by decide +kernel
theorem dX9_serverGets_320 : decode cX9_serverGets 320 = .ok (.aload_n 0, 1) := by decide +kernel
theorem dX9_serverGets_321 : decode cX9_serverGets 321 = .ok (.getfield 21, 3) := by decide +kernel
theorem dX9_serverGets_324 : decode cX9_serverGets 324 = .ok (.iconst 3, 1) := by decide +kernel
theorem dX9_serverGets_325 : decode cX9_serverGets 325 = .ok (.iload_n 1, 1) := by decide +kernel
theorem dX9_serverGets_326 : decode cX9_serverGets 326 = .ok (.imul, 1) := by decide +kernel
theorem dX9_serverGets_327 : decode cX9_serverGets 327 = .ok (.aload_n 0, 1) := by decide +kernel
theorem dX9_serverGets_328 : decode cX9_serverGets 328 = .ok (.getfield 229, 3) := by decide +kernel
theorem dX9_serverGets_331 : decode cX9_serverGets 331 = .ok (.iadd, 1) := by decide +kernel
theorem dX9_serverGets_332 : decode cX9_serverGets 332 = .ok (.iaload, 1) := by decide +kernel
theorem dX9_serverGets_333 : decode cX9_serverGets 333 = .ok (.iastore, 1) := by decide +kernel
theorem dX9_serverGets_334 : decode cX9_serverGets 334 = .ok (.aload_n 0, 1) := by decide +kernel
theorem dX9_serverGets_335 : decode cX9_serverGets 335 = .ok (.getfield 54, 3) := by decide +kernel
theorem dX9_serverGets_338 : decode cX9_serverGets 338 = .ok (.iload_n 2, 1) := by decide +kernel
theorem dX9_serverGets_339 : decode cX9_serverGets 339 = .ok (.aload_n 0, 1) := by decide +kernel
theorem dX9_serverGets_340 : decode cX9_serverGets 340 = .ok (.getfield 24, 3) := by decide +kernel
theorem dX9_serverGets_343 : decode cX9_serverGets 343 = .ok (.iconst 3, 1) := by decide +kernel
theorem dX9_serverGets_344 : decode cX9_serverGets 344 = .ok (.iload_n 1, 1) := by decide +kernel
theorem dX9_serverGets_345 : decode cX9_serverGets 345 = .ok (.imul, 1) := by decide +kernel
theorem dX9_serverGets_346 : decode cX9_serverGets 346 = .ok (.aload_n 0, 1) := by decide +kernel
theorem dX9_serverGets_347 : decode cX9_serverGets 347 = .ok (.getfield 229, 3) := by decide +kernel
theorem dX9_serverGets_350 : decode cX9_serverGets 350 = .ok (.iadd, 1) := by decide +kernel
theorem dX9_serverGets_351 : decode cX9_serverGets 351 = .ok (.iaload, 1) := by decide +kernel
theorem dX9_serverGets_352 : decode cX9_serverGets 352 = .ok (.iastore, 1) := by decide +kernel
theorem dX9_serverGets_353 : decode cX9_serverGets 353 = .ok (.aload_n 0, 1) := by decide +kernel
theorem dX9_serverGets_354 : decode cX9_serverGets 354 = .ok (.getfield 217, 3) := by decide +kernel
theorem dX9_serverGets_357 : decode cX9_serverGets 357 = .ok (.iconst 4, 1) := by decide +kernel
theorem dX9_serverGets_358 : decode cX9_serverGets 358 = .ok (.if_icmp .ne 95, 3) := by decide +kernel
theorem dX9_serverGets_361 : decode cX9_serverGets 361 = .ok (.aload_n 0, 1) := by decide +kernel
theorem dX9_serverGets_362 : decode cX9_serverGets 362 = .ok (.getfield 51, 3) := by decide +kernel
theorem dX9_serverGets_365 : decode cX9_serverGets 365 = .ok (.iload_n 2, 1) := by decide +kernel
theorem dX9_serverGets_366 : decode cX9_serverGets 366 = .ok (.aload_n 0, 1) := by decide +kernel
theorem dX9_serverGets_367 : decode cX9_serverGets 367 = .ok (.getfield 21, 3) := by decide +kernel
theorem dX9_serverGets_370 : decode cX9_serverGets 370 = .ok (.iconst 3, 1) := by decide +kernel
theorem dX9_serverGets_371 : decode cX9_serverGets 371 = .ok (.iload_n 1, 1) := by decide +kernel
theorem dX9_serverGets_372 : decode cX9_serverGets 372 = .ok (.imul, 1) := by decide +kernel
theorem dX9_serverGets_373 : decode cX9_serverGets 373 = .ok (.iaload, 1) := by decide +kernel
theorem dX9_serverGets_374 : decode cX9_serverGets 374 = .ok (.iastore, 1) := by decide +kernel
theorem dX9_serverGets_375 : decode cX9_serverGets 375 = .ok (.aload_n 0, 1) := by decide +kernel
theorem dX9_serverGets_376 : decode cX9_serverGets 376 = .ok (.getfield 54, 3) := by decide +kernel
theorem dX9_serverGets_379 : decode cX9_serverGets 379 = .ok (.iload_n 2, 1) := by decide +kernel
theorem dX9_serverGets_380 : decode cX9_serverGets 380 = .ok (.aload_n 0, 1) := by decide +kernel
theorem dX9_serverGets_381 : decode cX9_serverGets 381 = .ok (.getfield 24, 3) := by decide +kernel
theorem dX9_serverGets_384 : decode cX9_serverGets 384 = .ok (.iconst 3, 1) := by decide +kernel
theorem dX9_serverGets_385 : decode cX9_serverGets 385 = .ok (.iload_n 1, 1) := by decide +kernel
theorem dX9_serverGets_386 : decode cX9_serverGets 386 = .ok (.imul, 1) := by decide +kernel
theorem dX9_serverGets_387 : decode cX9_serverGets 387 = .ok (.iaload, 1) := by decide +kernel
theorem dX9_serverGets_388 : decode cX9_serverGets 388 = .ok (.iastore, 1) := by decide +kernel
theorem dX9_serverGets_389 : decode cX9_serverGets 389 = .ok (.aload_n 0, 1) := by decide +kernel
theorem dX9_serverGets_390 : decode cX9_serverGets 390 = .ok (.getfield 57, 3) := by decide +kernel
theorem dX9_serverGets_393 : decode cX9_serverGets 393 = .ok (.iload_n 2, 1) := by decide +kernel
theorem dX9_serverGets_394 : decode cX9_serverGets 394 = .ok (.aload_n 0, 1) := by decide +kernel
theorem dX9_serverGets_395 : decode cX9_serverGets 395 = .ok (.getfield 21, 3) := by decide +kernel
theorem dX9_serverGets_398 : decode cX9_serverGets 398 = .ok (.iconst 3, 1) := by decide +kernel
theorem dX9_serverGets_399 : decode cX9_serverGets 399 = .ok (.iload_n 1, 1) := by decide +kernel
theorem dX9_serverGets_400 : decode cX9_serverGets 400 = .ok (.imul, 1) := by decide +kernel
theorem dX9_serverGets_401 : decode cX9_serverGets 401 = .ok (.iconst 1, 1) := by decide +kernel
theorem dX9_serverGets_402 : decode cX9_serverGets 402 = .ok (.iadd, 1) := by decide +kernel
theorem dX9_serverGets_403 : decode cX9_serverGets 403 = .ok (.iaload, 1) := by decide +kernel
theorem dX9_serverGets_404 : decode cX9_serverGets 404 = .ok (.iastore, 1) := by decide +kernel
theorem dX9_serverGets_405 : decode cX9_serverGets 405 = .ok (.aload_n 0, 1) := by decide +kernel
theorem dX9_serverGets_406 : decode cX9_serverGets 406 = .ok (.getfield 60, 3) := by decide +kernel
theorem dX9_serverGets_409 : decode cX9_serverGets 409 = .ok (.iload_n 2, 1) := by decide +kernel
theorem dX9_serverGets_410 : decode cX9_serverGets 410 = .ok (.aload_n 0, 1) := by decide +kernel
