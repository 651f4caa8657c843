theorem dX5_pick_47 : decode cX5_pick 47 = .ok (.iconst 1, 1) := by decide +kernel
theorem dX5_pick_48 : decode cX5_pick 48 = .ok (.iadd, 1) := by decide +kernel
theorem dX5_pick_49 : decode cX5_pick 49 = .ok (.putfield 35, 3) := by decide +kernel
theorem dX5_pick_52 : decode cX5_pick 52 = .ok (.return_, 1) := by decide +kernel
theorem dX5_findsRow_0 : decode cX5_findsRow 0 = .ok (.aload_n 0, 1) := by decide +kernel
theorem dX5_findsRow_1 : decode cX5_findsRow 1 = .ok (.invokevirtual 70, 3) := by decide +kernel
theorem dX5_findsRow_4 : decode cX5_findsRow 4 = .ok (.istore_n 1, 1) := by decide +kernel
theorem dX5_findsRow_5 : decode cX5_findsRow 5 = .ok (.iconst 0, 1) := by decide +kernel
theorem dX5_findsRow_6 : decode cX5_findsRow 6 = .ok (.istore_n 2, 1) := by decide +kernel
theorem dX5_findsRow_7 : decode cX5_findsRow 7 = .ok (.iload_n 2, 1) := by decide +kernel
theorem dX5_findsRow_8 : decode cX5_findsRow 8 = .ok (.iload_n 1, 1) := by decide +kernel
theorem dX5_findsRow_9 : decode cX5_findsRow 9 = .ok (.if_icmp .ge 58, 3) := by decide +kernel
theorem dX5_findsRow_12 : decode cX5_findsRow 12 = .ok (.aload_n 0, 1) := by decide +kernel
theorem dX5_findsRow_13 : decode cX5_findsRow 13 = .ok (.getfield 32, 3) := by decide +kernel
theorem dX5_findsRow_16 : decode cX5_findsRow 16 = .ok (.iload_n 2, 1) := by decide +kernel
theorem dX5_findsRow_17 : decode cX5_findsRow 17 = .ok (.iaload, 1) := by decide +kernel
theorem dX5_findsRow_18 : decode cX5_findsRow 18 = .ok (.ifCond .eq 39, 3) := by decide +kernel
theorem dX5_findsRow_21 : decode cX5_findsRow 21 = .ok (.aload_n 0, 1) := by decide +kernel
theorem dX5_findsRow_22 : decode cX5_findsRow 22 = .ok (.invokevirtual 74, 3) := by decide +kernel
theorem dX5_findsRow_25 : decode cX5_findsRow 25 = .ok (.ifCond .eq 5, 3) := by decide +kernel
theorem dX5_findsRow_28 : decode cX5_findsRow 28 = .ok (.iconst 1, 1) := by decide +kernel
theorem dX5_findsRow_29 : decode cX5_findsRow 29 = .ok (.ireturn, 1) := by decide +kernel
theorem dX5_findsRow_30 : decode cX5_findsRow 30 = .ok (.iconst 0, 1) := by decide +kernel
theorem dX5_findsRow_31 : decode cX5_findsRow 31 = .ok (.istore_n 3, 1) := by decide +kernel
theorem dX5_findsRow_32 : decode cX5_findsRow 32 = .ok (.iload_n 3, 1) := by decide +kernel
theorem dX5_findsRow_33 : decode cX5_findsRow 33 = .ok (.iconst 4, 1) := by decide +kernel
theorem dX5_findsRow_34 : decode cX5_findsRow 34 = .ok (.if_icmp .ge 23, 3) := by decide +kernel
theorem dX5_findsRow_37 : decode cX5_findsRow 37 = .ok (.aload_n 0, 1) := by decide +kernel
theorem dX5_findsRow_38 : decode cX5_findsRow 38 = .ok (.iload_n 3, 1) := by decide +kernel
theorem dX5_findsRow_39 : decode cX5_findsRow 39 = .ok (.invokevirtual 77, 3) := by decide +kernel
theorem dX5_findsRow_42 : decode cX5_findsRow 42 = .ok (.ifCond .eq 9, 3) := by decide +kernel
theorem dX5_findsRow_45 : decode cX5_findsRow 45 = .ok (.aload_n 0, 1) := by decide +kernel
theorem dX5_findsRow_46 : decode cX5_findsRow 46 = .ok (.iload_n 2, 1) := by decide +kernel
theorem dX5_findsRow_47 : decode cX5_findsRow 47 = .ok (.iload_n 3, 1) := by decide +kernel
theorem dX5_findsRow_48 : decode cX5_findsRow 48 = .ok (.invokevirtual 81, 3) := by decide +kernel
theorem dX5_findsRow_51 : decode cX5_findsRow 51 = .ok (.iinc 3 1, 3) := by decide +kernel
theorem dX5_findsRow_54 : decode cX5_findsRow 54 = .ok (.goto (-22), 3) := by decide +kernel
theorem dX5_findsRow_57 : decode cX5_findsRow 57 = .ok (.aload_n 0, 1) := by decide +kernel
theorem dX5_findsRow_58 : decode cX5_findsRow 58 = .ok (.invokevirtual 85, 3) := by decide +kernel
theorem dX5_findsRow_61 : decode cX5_findsRow 61 = .ok (.iinc 2 1, 3) := by decide +kernel
theorem dX5_findsRow_64 : decode cX5_findsRow 64 = .ok (.goto (-57), 3) := by decide +kernel
theorem dX5_findsRow_67 : decode cX5_findsRow 67 = .ok (.iconst 0, 1) := by decide +kernel
theorem dX5_findsRow_68 : decode cX5_findsRow 68 = .ok (.ireturn, 1) := by decide +kernel
theorem dX5_layOut_0 : decode cX5_layOut 0 = .ok (.iconst 1, 1) := by decide +kernel
theorem dX5_layOut_1 : decode cX5_layOut 1 = .ok (.istore_n 1, 1) := by decide +kernel
theorem dX5_layOut_2 : decode cX5_layOut 2 = .ok (.iconst 0, 1) := by decide +kernel
theorem dX5_layOut_3 : decode cX5_layOut 3 = .ok (.istore_n 2, 1) := by decide +kernel
theorem dX5_layOut_4 : decode cX5_layOut 4 = .ok (.iload_n 2, 1) := by decide +kernel
theorem dX5_layOut_5 : decode cX5_layOut 5 = .ok (.iconst 4, 1) := by decide +kernel
theorem dX5_layOut_6 : decode cX5_layOut 6 = .ok (.if_icmp .ge 27, 3) := by decide +kernel
theorem dX5_layOut_9 : decode cX5_layOut 9 = .ok (.aload_n 0, 1) := by decide +kernel
theorem dX5_layOut_10 : decode cX5_layOut 10 = .ok (.getfield 26, 3) := by decide +kernel
theorem dX5_layOut_13 : decode cX5_layOut 13 = .ok (.iload_n 2, 1) := by decide +kernel
theorem dX5_layOut_14 : decode cX5_layOut 14 = .ok (.iload_n 1, 1) := by decide +kernel
theorem dX5_layOut_15 : decode cX5_layOut 15 = .ok (.iastore, 1) := by decide +kernel
theorem dX5_layOut_16 : decode cX5_layOut 16 = .ok (.iload_n 1, 1) := by decide +kernel
theorem dX5_layOut_17 : decode cX5_layOut 17 = .ok (.aload_n 0, 1) := by decide +kernel
theorem dX5_layOut_18 : decode cX5_layOut 18 = .ok (.getfield 22, 3) := by decide +kernel
theorem dX5_layOut_21 : decode cX5_layOut 21 = .ok (.iload_n 2, 1) := by decide +kernel
theorem dX5_layOut_22 : decode cX5_layOut 22 = .ok (.iaload, 1) := by decide +kernel
theorem dX5_layOut_23 : decode cX5_layOut 23 = .ok (.iconst 1, 1) := by decide +kernel
theorem dX5_layOut_24 : decode cX5_layOut 24 = .ok (.iadd, 1) := by decide +kernel
theorem dX5_layOut_25 : decode cX5_layOut 25 = .ok (.imul, 1) := by decide +kernel
theorem dX5_layOut_26 : decode cX5_layOut 26 = .ok (.istore_n 1, 1) := by decide +kernel
theorem dX5_layOut_27 : decode cX5_layOut 27 = .ok (.iinc 2 1, 3) := by decide +kernel
theorem dX5_layOut_30 : decode cX5_layOut 30 = .ok (.goto (-26), 3) := by decide +kernel
theorem dX5_layOut_33 : decode cX5_layOut 33 = .ok (.aload_n 0, 1) := by decide +kernel
theorem dX5_layOut_34 : decode cX5_layOut 34 = .ok (.getfield 29, 3) := by decide +kernel
theorem dX5_layOut_37 : decode cX5_layOut 37 = .ok (.iconst 0, 1) := by decide +kernel
theorem dX5_layOut_38 : decode cX5_layOut 38 = .ok (.invokestatic 39, 3) := by decide +kernel
theorem dX5_layOut_41 : decode cX5_layOut 41 = .ok (.aload_n 0, 1) := by decide +kernel
theorem dX5_layOut_42 : decode cX5_layOut 42 = .ok (.getfield 32, 3) := by decide +kernel
theorem dX5_layOut_45 : decode cX5_layOut 45 = .ok (.iconst 0, 1) := by decide +kernel
theorem dX5_layOut_46 : decode cX5_layOut 46 = .ok (.invokestatic 39, 3) := by decide +kernel
theorem dX5_layOut_49 : decode cX5_layOut 49 = .ok (.aload_n 0, 1) := by decide +kernel
theorem dX5_layOut_50 : decode cX5_layOut 50 = .ok (.getfield 32, 3) := by decide +kernel
theorem dX5_layOut_53 : decode cX5_layOut 53 = .ok (.iconst 0, 1) := by decide +kernel
theorem dX5_layOut_54 : decode cX5_layOut 54 = .ok (.sipush 16384, 3) := by decide +kernel
theorem dX5_layOut_57 : decode cX5_layOut 57 = .ok (.iastore, 1) := by decide +kernel
theorem dX5_layOut_58 : decode cX5_layOut 58 = .ok (.iload_n 1, 1) := by decide +kernel
theorem dX5_layOut_59 : decode cX5_layOut 59 = .ok (.sipush 400, 3) := by decide +kernel
theorem dX5_layOut_62 : decode cX5_layOut 62 = .ok (.invokestatic 88, 3) := by decide +kernel
theorem dX5_layOut_65 : decode cX5_layOut 65 = .ok (.ireturn, 1) := by decide +kernel
theorem dX5_stepOn_0 : decode cX5_stepOn 0 = .ok (.iconst 0, 1) := by decide +kernel
theorem dX5_stepOn_1 : decode cX5_stepOn 1 = .ok (.istore_n 1, 1) := by decide +kernel
theorem dX5_stepOn_2 : decode cX5_stepOn 2 = .ok (.iload_n 1, 1) := by decide +kernel
theorem dX5_stepOn_3 : decode cX5_stepOn 3 = .ok (.iconst 4, 1) := by decide +kernel
theorem dX5_stepOn_4 : decode cX5_stepOn 4 = .ok (.if_icmp .ge 42, 3) := by decide +kernel
theorem dX5_stepOn_7 : decode cX5_stepOn 7 = .ok (.aload_n 0, 1) := by decide +kernel
theorem dX5_stepOn_8 : decode cX5_stepOn 8 = .ok (.getfield 29, 3) := by decide +kernel
theorem dX5_stepOn_11 : decode cX5_stepOn 11 = .ok (.iload_n 1, 1) := by decide +kernel
theorem dX5_stepOn_12 : decode cX5_stepOn 12 = .ok (.iaload, 1) := by decide +kernel
theorem dX5_stepOn_13 : decode cX5_stepOn 13 = .ok (.aload_n 0, 1) := by decide +kernel
theorem dX5_stepOn_14 : decode cX5_stepOn 14 = .ok (.getfield 22, 3) := by decide +kernel
theorem dX5_stepOn_17 : decode cX5_stepOn 17 = .ok (.iload_n 1, 1) := by decide +kernel
theorem dX5_stepOn_18 : decode cX5_stepOn 18 = .ok (.iaload, 1) := by decide +kernel
theorem dX5_stepOn_19 : decode cX5_stepOn 19 = .ok (.if_icmp .ge 14, 3) := by decide +kernel
theorem dX5_stepOn_22 : decode cX5_stepOn 22 = .ok (.aload_n 0, 1) := by decide +kernel
theorem dX5_stepOn_23 : decode cX5_stepOn 23 = .ok (.getfield 29, 3) := by decide +kernel
theorem dX5_stepOn_26 : decode cX5_stepOn 26 = .ok (.iload_n 1, 1) := by decide +kernel
theorem dX5_stepOn_27 : decode cX5_stepOn 27 = .ok (.dup2, 1) := by decide +kernel
theorem dX5_stepOn_28 : decode cX5_stepOn 28 = .ok (.iaload, 1) := by decide +kernel
theorem dX5_stepOn_29 : decode cX5_stepOn 29 = .ok (.iconst 1, 1) := by decide +kernel
theorem dX5_stepOn_30 : decode cX5_stepOn 30 = .ok (.iadd, 1) := by decide +kernel
theorem dX5_stepOn_31 : decode cX5_stepOn 31 = .ok (.iastore, 1) := by decide +kernel
theorem dX5_stepOn_32 : decode cX5_stepOn 32 = .ok (.return_, 1) := by decide +kernel
theorem dX5_stepOn_33 : decode cX5_stepOn 33 = .ok (.aload_n 0, 1) := by decide +kernel
theorem dX5_stepOn_34 : decode cX5_stepOn 34 = .ok (.getfield 29, 3) := by decide +kernel
theorem dX5_stepOn_37 : decode cX5_stepOn 37 = .ok (.iload_n 1, 1) := by decide +kernel
theorem dX5_stepOn_38 : decode cX5_stepOn 38 = .ok (.iconst 0, 1) := by decide +kernel
theorem dX5_stepOn_39 : decode cX5_stepOn 39 = .ok (.iastore, 1) := by decide +kernel
theorem dX5_stepOn_40 : decode cX5_stepOn 40 = .ok (.iinc 1 1, 3) := by decide +kernel
theorem dX5_stepOn_43 : decode cX5_stepOn 43 = .ok (.goto (-41), 3) := by decide +kernel
theorem dX5_stepOn_46 : decode cX5_stepOn 46 = .ok (.return_, 1) := by decide +kernel
theorem dX5_allEndedArePlaced_0 : decode cX5_allEndedArePlaced 0 = .ok (.iconst 0, 1) := by decide +kernel
theorem dX5_allEndedArePlaced_1 : decode cX5_allEndedArePlaced 1 = .ok (.istore_n 1, 1) := by decide +kernel
theorem dX5_allEndedArePlaced_2 : decode cX5_allEndedArePlaced 2 = .ok (.iload_n 1, 1) := by decide +kernel
theorem dX5_allEndedArePlaced_3 : decode cX5_allEndedArePlaced 3 = .ok (.iconst 4, 1) := by decide +kernel
theorem dX5_allEndedArePlaced_4 : decode cX5_allEndedArePlaced 4 = .ok (.if_icmp .ge 37, 3) := by decide +kernel
theorem dX5_allEndedArePlaced_7 : decode cX5_allEndedArePlaced 7 = .ok (.aload_n 0, 1) := by decide +kernel
theorem dX5_allEndedArePlaced_8 : decode cX5_allEndedArePlaced 8 = .ok (.getfield 29, 3) := by decide +kernel
theorem dX5_allEndedArePlaced_11 : decode cX5_allEndedArePlaced 11 = .ok (.iload_n 1, 1) := by decide +kernel
theorem dX5_allEndedArePlaced_12 : decode cX5_allEndedArePlaced 12 = .ok (.iaload, 1) := by decide +kernel
theorem dX5_allEndedArePlaced_13 : decode cX5_allEndedArePlaced 13 = .ok (.aload_n 0, 1) := by decide +kernel
theorem dX5_allEndedArePlaced_14 : decode cX5_allEndedArePlaced 14 = .ok (.getfield 22, 3) := by decide +kernel
theorem dX5_allEndedArePlaced_17 : decode cX5_allEndedArePlaced 17 = .ok (.iload_n 1, 1) := by decide +kernel
theorem dX5_allEndedArePlaced_18 : decode cX5_allEndedArePlaced 18 = .ok (.iaload, 1) := by decide +kernel
theorem dX5_allEndedArePlaced_19 : decode cX5_allEndedArePlaced 19 = .ok (.if_icmp .ge 16, 3) := by decide +kernel
theorem dX5_allEndedArePlaced_22 : decode cX5_allEndedArePlaced 22 = .ok (.aload_n 0, 1) := by decide +kernel
theorem dX5_allEndedArePlaced_23 : decode cX5_allEndedArePlaced 23 = .ok (.iload_n 1, 1) := by decide +kernel
theorem dX5_allEndedArePlaced_24 : decode cX5_allEndedArePlaced 24 = .ok (.invokevirtual 94, 3) := by decide +kernel
theorem dX5_allEndedArePlaced_27 : decode cX5_allEndedArePlaced 27 = .ok (.invokevirtual 59, 3) := by decide +kernel
theorem dX5_allEndedArePlaced_30 : decode cX5_allEndedArePlaced 30 = .ok (.ifCond .eq 5, 3) := by decide +kernel
theorem dX5_allEndedArePlaced_33 : decode cX5_allEndedArePlaced 33 = .ok (.iconst 0, 1) := by decide +kernel
theorem dX5_allEndedArePlaced_34 : decode cX5_allEndedArePlaced 34 = .ok (.ireturn, 1) := by decide +kernel
theorem dX5_allEndedArePlaced_35 : decode cX5_allEndedArePlaced 35 = .ok (.iinc 1 1, 3) := by decide +kernel
theorem dX5_allEndedArePlaced_38 : decode cX5_allEndedArePlaced 38 = .ok (.goto (-36), 3) := by decide +kernel
theorem dX5_allEndedArePlaced_41 : decode cX5_allEndedArePlaced 41 = .ok (.iconst 1, 1) := by decide +kernel
theorem dX5_allEndedArePlaced_42 : decode cX5_allEndedArePlaced 42 = .ok (.ireturn, 1) := by decide +kernel
theorem dX5_nextOf_0 : decode cX5_nextOf 0 = .ok (.aload_n 0, 1) := by decide +kernel
theorem dX5_nextOf_1 : decode cX5_nextOf 1 = .ok (.getfield 13, 3) := by decide +kernel
theorem dX5_nextOf_4 : decode cX5_nextOf 4 = .ok (.aload_n 0, 1) := by decide +kernel
theorem dX5_nextOf_5 : decode cX5_nextOf 5 = .ok (.getfield 19, 3) := by decide +kernel
theorem dX5_nextOf_8 : decode cX5_nextOf 8 = .ok (.iload_n 1, 1) := by decide +kernel
theorem dX5_nextOf_9 : decode cX5_nextOf 9 = .ok (.aaload, 1) := by decide +kernel
theorem dX5_nextOf_10 : decode cX5_nextOf 10 = .ok (.aload_n 0, 1) := by decide +kernel
theorem dX5_nextOf_11 : decode cX5_nextOf 11 = .ok (.getfield 29, 3) := by decide +kernel
theorem dX5_nextOf_14 : decode cX5_nextOf 14 = .ok (.iload_n 1, 1) := by decide +kernel
theorem dX5_nextOf_15 : decode cX5_nextOf 15 = .ok (.iaload, 1) := by decide +kernel
theorem dX5_nextOf_16 : decode cX5_nextOf 16 = .ok (.iaload, 1) := by decide +kernel
theorem dX5_nextOf_17 : decode cX5_nextOf 17 = .ok (.aaload, 1) := by decide +kernel
theorem dX5_nextOf_18 : decode cX5_nextOf 18 = .ok (.areturn, 1) := by decide +kernel
theorem dX5_mayComeNext_0 : decode cX5_mayComeNext 0 = .ok (.aload_n 0, 1) := by decide +kernel
theorem dX5_mayComeNext_1 : decode cX5_mayComeNext 1 = .ok (.getfield 29, 3) := by decide +kernel
theorem dX5_mayComeNext_4 : decode cX5_mayComeNext 4 = .ok (.iload_n 1, 1) := by decide +kernel
theorem dX5_mayComeNext_5 : decode cX5_mayComeNext 5 = .ok (.iaload, 1) := by decide +kernel
theorem dX5_mayComeNext_6 : decode cX5_mayComeNext 6 = .ok (.aload_n 0, 1) := by decide +kernel
theorem dX5_mayComeNext_7 : decode cX5_mayComeNext 7 = .ok (.getfield 22, 3) := by decide +kernel
theorem dX5_mayComeNext_10 : decode cX5_mayComeNext 10 = .ok (.iload_n 1, 1) := by decide +kernel
theorem dX5_mayComeNext_11 : decode cX5_mayComeNext 11 = .ok (.iaload, 1) := by decide +kernel
theorem dX5_mayComeNext_12 : decode cX5_mayComeNext 12 = .ok (.if_icmp .lt 5, 3) := by decide +kernel
theorem dX5_mayComeNext_15 : decode cX5_mayComeNext 15 = .ok (.iconst 0, 1) := by decide +kernel
theorem dX5_mayComeNext_16 : decode cX5_mayComeNext 16 = .ok (.ireturn, 1) := by decide +kernel
theorem dX5_mayComeNext_17 : decode cX5_mayComeNext 17 = .ok (.aload_n 0, 1) := by decide +kernel
theorem dX5_mayComeNext_18 : decode cX5_mayComeNext 18 = .ok (.iload_n 1, 1) := by decide +kernel
theorem dX5_mayComeNext_19 : decode cX5_mayComeNext 19 = .ok (.invokevirtual 94, 3) := by decide +kernel
theorem dX5_mayComeNext_22 : decode cX5_mayComeNext 22 = .ok (.getfield 98, 3) := by decide +kernel
theorem dX5_mayComeNext_25 : decode cX5_mayComeNext 25 = .ok (.istore_n 2, 1) := by decide +kernel
theorem dX5_mayComeNext_26 : decode cX5_mayComeNext 26 = .ok (.iconst 0, 1) := by decide +kernel
theorem dX5_mayComeNext_27 : decode cX5_mayComeNext 27 = .ok (.istore_n 3, 1) := by decide +kernel
theorem dX5_mayComeNext_28 : decode cX5_mayComeNext 28 = .ok (.iload_n 3, 1) := by decide +kernel
theorem dX5_mayComeNext_29 : decode cX5_mayComeNext 29 = .ok (.iconst 4, 1) := by decide +kernel
theorem dX5_mayComeNext_30 : decode cX5_mayComeNext 30 = .ok (.if_icmp .ge 49, 3) := by decide +kernel
theorem dX5_mayComeNext_33 : decode cX5_mayComeNext 33 = .ok (.aload_n 0, 1) := by decide +kernel
theorem dX5_mayComeNext_34 : decode cX5_mayComeNext 34 = .ok (.getfield 29, 3) := by decide +kernel
theorem dX5_mayComeNext_37 : decode cX5_mayComeNext 37 = .ok (.iload_n 3, 1) := by decide +kernel
theorem dX5_mayComeNext_38 : decode cX5_mayComeNext 38 = .ok (.iaload, 1) := by decide +kernel
theorem dX5_mayComeNext_39 : decode cX5_mayComeNext 39 = .ok (.aload_n 0, 1) := by decide +kernel
theorem dX5_mayComeNext_40 : decode cX5_mayComeNext 40 = .ok (.getfield 22, 3) := by decide +kernel
theorem dX5_mayComeNext_43 : decode cX5_mayComeNext 43 = .ok (.iload_n 3, 1) := by decide +kernel
theorem dX5_mayComeNext_44 : decode cX5_mayComeNext 44 = .ok (.iaload, 1) := by decide +kernel
theorem dX5_mayComeNext_45 : decode cX5_mayComeNext 45 = .ok (.if_icmp .ge 28, 3) := by decide +kernel
theorem dX5_mayComeNext_48 : decode cX5_mayComeNext 48 = .ok (.aload_n 0, 1) := by decide +kernel
theorem dX5_mayComeNext_49 : decode cX5_mayComeNext 49 = .ok (.iload_n 3, 1) := by decide +kernel
theorem dX5_mayComeNext_50 : decode cX5_mayComeNext 50 = .ok (.invokevirtual 94, 3) := by decide +kernel
theorem dX5_mayComeNext_53 : decode cX5_mayComeNext 53 = .ok (.invokevirtual 59, 3) := by decide +kernel
theorem dX5_mayComeNext_56 : decode cX5_mayComeNext 56 = .ok (.ifCond .eq 17, 3) := by decide +kernel
theorem dX5_mayComeNext_59 : decode cX5_mayComeNext 59 = .ok (.aload_n 0, 1) := by decide +kernel
theorem dX5_mayComeNext_60 : decode cX5_mayComeNext 60 = .ok (.iload_n 3, 1) := by decide +kernel
theorem dX5_mayComeNext_61 : decode cX5_mayComeNext 61 = .ok (.invokevirtual 94, 3) := by decide +kernel
theorem dX5_mayComeNext_64 : decode cX5_mayComeNext 64 = .ok (.getfield 101, 3) := by decide +kernel
theorem dX5_mayComeNext_67 : decode cX5_mayComeNext 67 = .ok (.iload_n 2, 1) := by decide +kernel
theorem dX5_mayComeNext_68 : decode cX5_mayComeNext 68 = .ok (.if_icmp .ge 5, 3) := by decide +kernel
theorem dX5_mayComeNext_71 : decode cX5_mayComeNext 71 = .ok (.iconst 0, 1) := by decide +kernel
theorem dX5_mayComeNext_72 : decode cX5_mayComeNext 72 = .ok (.ireturn, 1) := by decide +kernel
theorem dX5_mayComeNext_73 : decode cX5_mayComeNext 73 = .ok (.iinc 3 1, 3) := by decide +kernel
theorem dX5_mayComeNext_76 : decode cX5_mayComeNext 76 = .ok (.goto (-48), 3) := by decide +kernel
theorem dX5_mayComeNext_79 : decode cX5_mayComeNext 79 = .ok (.iconst 1, 1) := by decide +kernel
theorem dX5_mayComeNext_80 : decode cX5_mayComeNext 80 = .ok (.ireturn, 1) := by decide +kernel
theorem dX5_placeNext_0 : decode cX5_placeNext 0 = .ok (.aload_n 0, 1) := by decide +kernel
theorem dX5_placeNext_1 : decode cX5_placeNext 1 = .ok (.iload_n 2, 1) := by decide +kernel
theorem dX5_placeNext_2 : decode cX5_placeNext 2 = .ok (.invokevirtual 94, 3) := by decide +kernel
theorem dX5_placeNext_5 : decode cX5_placeNext 5 = .ok (.astore_n 3, 1) := by decide +kernel
theorem dX5_placeNext_6 : decode cX5_placeNext 6 = .ok (.aload_n 3, 1) := by decide +kernel
theorem dX5_placeNext_7 : decode cX5_placeNext 7 = .ok (.getfield 53, 3) := by decide +kernel
theorem dX5_placeNext_10 : decode cX5_placeNext 10 = .ok (.iconst 1, 1) := by decide +kernel
theorem dX5_placeNext_11 : decode cX5_placeNext 11 = .ok (.if_icmp .ne 21, 3) := by decide +kernel
theorem dX5_placeNext_14 : decode cX5_placeNext 14 = .ok (.iconst 1, 1) := by decide +kernel
theorem dX5_placeNext_15 : decode cX5_placeNext 15 = .ok (.aload_n 0, 1) := by decide +kernel
theorem dX5_placeNext_16 : decode cX5_placeNext 16 = .ok (.getfield 19, 3) := by decide +kernel
theorem dX5_placeNext_19 : decode cX5_placeNext 19 = .ok (.iload_n 2, 1) := by decide +kernel
theorem dX5_placeNext_20 : decode cX5_placeNext 20 = .ok (.aaload, 1) := by decide +kernel
theorem dX5_placeNext_21 : decode cX5_placeNext 21 = .ok (.aload_n 0, 1) := by decide +kernel
theorem dX5_placeNext_22 : decode cX5_placeNext 22 = .ok (.getfield 29, 3) := by decide +kernel
theorem dX5_placeNext_25 : decode cX5_placeNext 25 = .ok (.iload_n 2, 1) := by decide +kernel
theorem dX5_placeNext_26 : decode cX5_placeNext 26 = .ok (.iaload, 1) := by decide +kernel
theorem dX5_placeNext_27 : decode cX5_placeNext 27 = .ok (.iaload, 1) := by decide +kernel
theorem dX5_placeNext_28 : decode cX5_placeNext 28 = .ok (.ishl, 1) := by decide +kernel
theorem dX5_placeNext_29 : decode cX5_placeNext 29 = .ok (.goto 18, 3) := by decide +kernel
theorem dX5_placeNext_32 : decode cX5_placeNext 32 = .ok (.aload_n 0, 1) := by decide +kernel
theorem dX5_placeNext_33 : decode cX5_placeNext 33 = .ok (.getfield 32, 3) := by decide +kernel
theorem dX5_placeNext_36 : decode cX5_placeNext 36 = .ok (.iload_n 1, 1) := by decide +kernel
theorem dX5_placeNext_37 : decode cX5_placeNext 37 = .ok (.iaload, 1) := by decide +kernel
theorem dX5_placeNext_38 : decode cX5_placeNext 38 = .ok (.aload_n 0, 1) := by decide +kernel
theorem dX5_placeNext_39 : decode cX5_placeNext 39 = .ok (.aload_n 3, 1) := by decide +kernel
theorem dX5_placeNext_40 : decode cX5_placeNext 40 = .ok (.getfield 104, 3) := by decide +kernel
theorem dX5_placeNext_43 : decode cX5_placeNext 43 = .ok (.invokevirtual 107, 3) := by decide +kernel
theorem dX5_placeNext_46 : decode cX5_placeNext 46 = .ok (.iand, 1) := by decide +kernel
theorem dX5_placeNext_47 : decode cX5_placeNext 47 = .ok (.istore 4, 2) := by decide +kernel
theorem dX5_placeNext_49 : decode cX5_placeNext 49 = .ok (.iload_n 1, 1) := by decide +kernel
theorem dX5_placeNext_50 : decode cX5_placeNext 50 = .ok (.aload_n 0, 1) := by decide +kernel
theorem dX5_placeNext_51 : decode cX5_placeNext 51 = .ok (.getfield 26, 3) := by decide +kernel
theorem dX5_placeNext_54 : decode cX5_placeNext 54 = .ok (.iload_n 2, 1) := by decide +kernel
theorem dX5_placeNext_55 : decode cX5_placeNext 55 = .ok (.iaload, 1) := by decide +kernel
theorem dX5_placeNext_56 : decode cX5_placeNext 56 = .ok (.iadd, 1) := by decide +kernel
theorem dX5_placeNext_57 : decode cX5_placeNext 57 = .ok (.istore 5, 2) := by decide +kernel
theorem dX5_placeNext_59 : decode cX5_placeNext 59 = .ok (.iload 5, 2) := by decide +kernel
theorem dX5_placeNext_61 : decode cX5_placeNext 61 = .ok (.sipush 400, 3) := by decide +kernel
theorem dX5_placeNext_64 : decode cX5_placeNext 64 = .ok (.if_icmp .ge 15, 3) := by decide +kernel
theorem dX5_placeNext_67 : decode cX5_placeNext 67 = .ok (.aload_n 0, 1) := by decide +kernel
theorem dX5_placeNext_68 : decode cX5_placeNext 68 = .ok (.getfield 32, 3) := by decide +kernel
theorem dX5_placeNext_71 : decode cX5_placeNext 71 = .ok (.iload 5, 2) := by decide +kernel
theorem dX5_placeNext_73 : decode cX5_placeNext 73 = .ok (.dup2, 1) := by decide +kernel
theorem dX5_placeNext_74 : decode cX5_placeNext 74 = .ok (.iaload, 1) := by decide +kernel
theorem dX5_placeNext_75 : decode cX5_placeNext 75 = .ok (.iload 4, 2) := by decide +kernel
theorem dX5_placeNext_77 : decode cX5_placeNext 77 = .ok (.ior, 1) := by decide +kernel
theorem dX5_placeNext_78 : decode cX5_placeNext 78 = .ok (.iastore, 1) := by decide +kernel
theorem dX5_placeNext_79 : decode cX5_placeNext 79 = .ok (.return_, 1) := by decide +kernel
theorem dX5_writesOf_0 : decode cX5_writesOf 0 = .ok (.iload_n 1, 1) := by decide +kernel
theorem dX5_writesOf_1 : decode cX5_writesOf 1 = .ok (.ifCond .ne 9, 3) := by decide +kernel
theorem dX5_writesOf_4 : decode cX5_writesOf 4 = .ok (.sipush 16384, 3) := by decide +kernel
theorem dX5_writesOf_7 : decode cX5_writesOf 7 = .ok (.goto 4, 3) := by decide +kernel
theorem dX5_writesOf_10 : decode cX5_writesOf 10 = .ok (.iconst 0, 1) := by decide +kernel
theorem dX5_writesOf_11 : decode cX5_writesOf 11 = .ok (.istore_n 2, 1) := by decide +kernel
theorem dX5_writesOf_12 : decode cX5_writesOf 12 = .ok (.iconst 0, 1) := by decide +kernel
theorem dX5_writesOf_13 : decode cX5_writesOf 13 = .ok (.istore_n 3, 1) := by decide +kernel
theorem dX5_writesOf_14 : decode cX5_writesOf 14 = .ok (.iload_n 3, 1) := by decide +kernel
theorem dX5_writesOf_15 : decode cX5_writesOf 15 = .ok (.aload_n 0, 1) := by decide +kernel
theorem dX5_writesOf_16 : decode cX5_writesOf 16 = .ok (.getfield 35, 3) := by decide +kernel
theorem dX5_writesOf_19 : decode cX5_writesOf 19 = .ok (.if_icmp .ge 41, 3) := by decide +kernel
theorem dX5_writesOf_22 : decode cX5_writesOf 22 = .ok (.aload_n 0, 1) := by decide +kernel
theorem dX5_writesOf_23 : decode cX5_writesOf 23 = .ok (.getfield 13, 3) := by decide +kernel
theorem dX5_writesOf_26 : decode cX5_writesOf 26 = .ok (.iload_n 3, 1) := by decide +kernel
theorem dX5_writesOf_27 : decode cX5_writesOf 27 = .ok (.aaload, 1) := by decide +kernel
theorem dX5_writesOf_28 : decode cX5_writesOf 28 = .ok (.getfield 53, 3) := by decide +kernel
theorem dX5_writesOf_31 : decode cX5_writesOf 31 = .ok (.iconst 1, 1) := by decide +kernel
theorem dX5_writesOf_32 : decode cX5_writesOf 32 = .ok (.if_icmp .ne 22, 3) := by decide +kernel
theorem dX5_writesOf_35 : decode cX5_writesOf 35 = .ok (.aload_n 0, 1) := by decide +kernel
theorem dX5_writesOf_36 : decode cX5_writesOf 36 = .ok (.getfield 13, 3) := by decide +kernel
theorem dX5_writesOf_39 : decode cX5_writesOf 39 = .ok (.iload_n 3, 1) := by decide +kernel
theorem dX5_writesOf_40 : decode cX5_writesOf 40 = .ok (.aaload, 1) := by decide +kernel
theorem dX5_writesOf_41 : decode cX5_writesOf 41 = .ok (.getfield 111, 3) := by decide +kernel
theorem dX5_writesOf_44 : decode cX5_writesOf 44 = .ok (.iload_n 1, 1) := by decide +kernel
theorem dX5_writesOf_45 : decode cX5_writesOf 45 = .ok (.if_icmp .ne 9, 3) := by decide +kernel
theorem dX5_writesOf_48 : decode cX5_writesOf 48 = .ok (.iload_n 2, 1) := by decide +kernel
theorem dX5_writesOf_49 : decode cX5_writesOf 49 = .ok (.iconst 1, 1) := by decide +kernel
theorem dX5_writesOf_50 : decode cX5_writesOf 50 = .ok (.iload_n 3, 1) := by decide +kernel
theorem dX5_writesOf_51 : decode cX5_writesOf 51 = .ok (.ishl, 1) := by decide +kernel
theorem dX5_writesOf_52 : decode cX5_writesOf 52 = .ok (.ior, 1) := by decide +kernel
theorem dX5_writesOf_53 : decode cX5_writesOf 53 = .ok (.istore_n 2, 1) := by decide +kernel
theorem dX5_writesOf_54 : decode cX5_writesOf 54 = .ok (.iinc 3 1, 3) := by decide +kernel
theorem dX5_writesOf_57 : decode cX5_writesOf 57 = .ok (.goto (-43), 3) := by decide +kernel
theorem dX5_writesOf_60 : decode cX5_writesOf 60 = .ok (.iload_n 2, 1) := by decide +kernel
theorem dX5_writesOf_61 : decode cX5_writesOf 61 = .ok (.ireturn, 1) := by decide +kernel
theorem dX6_init_0 : decode cX6_init 0 = .ok (.aload_n 0, 1) := by decide +kernel
theorem dX6_init_1 : decode cX6_init 1 = .ok (.invokespecial 3, 3) := by decide +kernel
theorem dX6_init_4 : decode cX6_init 4 = .ok (.aload_n 0, 1) := by decide +kernel
theorem dX6_init_5 : decode cX6_init 5 = .ok (.new 9, 3) := by decide +kernel
theorem dX6_init_8 : decode cX6_init 8 = .ok (.dup, 1) := by decide +kernel
theorem dX6_init_9 : decode cX6_init 9 = .ok (.invokespecial 11, 3) := by decide +kernel
theorem dX6_init_12 : decode cX6_init 12 = .ok (.putfield 12, 3) := by decide +kernel
theorem dX6_init_15 : decode cX6_init 15 = .ok (.aload_n 0, 1) := by decide +kernel
theorem dX6_init_16 : decode cX6_init 16 = .ok (.iconst 3, 1) := by decide +kernel
theorem dX6_init_17 : decode cX6_init 17 = .ok (.newarray .int, 2) := by decide +kernel
theorem dX6_init_19 : decode cX6_init 19 = .ok (.putfield 18, 3) := by decide +kernel
theorem dX6_init_22 : decode cX6_init 22 = .ok (.aload_n 0, 1) := by decide +kernel
theorem dX6_init_23 : decode cX6_init 23 = .ok (.iconst 3, 1) := by decide +kernel
theorem dX6_init_24 : decode cX6_init 24 = .ok (.newarray .int, 2) := by decide +kernel
theorem dX6_init_26 : decode cX6_init 26 = .ok (.putfield 22, 3) := by decide +kernel
theorem dX6_init_29 : decode cX6_init 29 = .ok (.aload_n 0, 1) := by decide +kernel
theorem dX6_init_30 : decode cX6_init 30 = .ok (.iconst 5, 1) := by decide +kernel
theorem dX6_init_31 : decode cX6_init 31 = .ok (.newarray .int, 2) := by decide +kernel
theorem dX6_init_33 : decode cX6_init 33 = .ok (.putfield 25, 3) := by decide +kernel
theorem dX6_init_36 : decode cX6_init 36 = .ok (.aload_n 0, 1) := by decide +kernel
theorem dX6_init_37 : decode cX6_init 37 = .ok (.iconst 5, 1) := by decide +kernel
theorem dX6_init_38 : decode cX6_init 38 = .ok (.newarray .int, 2) := by decide +kernel
theorem dX6_init_40 : decode cX6_init 40 = .ok (.putfield 28, 3) := by decide +kernel
theorem dX6_init_43 : decode cX6_init 43 = .ok (.aload_n 0, 1) := by decide +kernel
theorem dX6_init_44 : decode cX6_init 44 = .ok (.iconst 5, 1) := by decide +kernel
theorem dX6_init_45 : decode cX6_init 45 = .ok (.newarray .int, 2) := by decide +kernel
theorem dX6_init_47 : decode cX6_init 47 = .ok (.putfield 31, 3) := by decide +kernel
theorem dX6_init_50 : decode cX6_init 50 = .ok (.return_, 1) := by decide +kernel
theorem dX6_restart_0 : decode cX6_restart 0 = .ok (.aload_n 0, 1) := by decide +kernel
theorem dX6_restart_1 : decode cX6_restart 1 = .ok (.getfield 12, 3) := by decide +kernel
theorem dX6_restart_4 : decode cX6_restart 4 = .ok (.iload_n 1, 1) := by decide +kernel
theorem dX6_restart_5 : decode cX6_restart 5 = .ok (.invokevirtual 34, 3) := by decide +kernel
theorem dX6_restart_8 : decode cX6_restart 8 = .ok (.aload_n 0, 1) := by decide +kernel
theorem dX6_restart_9 : decode cX6_restart 9 = .ok (.getfield 18, 3) := by decide +kernel
theorem dX6_restart_12 : decode cX6_restart 12 = .ok (.iconst 0, 1) := by decide +kernel
theorem dX6_restart_13 : decode cX6_restart 13 = .ok (.invokestatic 38, 3) := by decide +kernel
theorem dX6_restart_16 : decode cX6_restart 16 = .ok (.aload_n 0, 1) := by decide +kernel
theorem dX6_restart_17 : decode cX6_restart 17 = .ok (.getfield 22, 3) := by decide +kernel
theorem dX6_restart_20 : decode cX6_restart 20 = .ok (.iconst 0, 1) := by decide +kernel
theorem dX6_restart_21 : decode cX6_restart 21 = .ok (.invokestatic 38, 3) := by decide +kernel
theorem dX6_restart_24 : decode cX6_restart 24 = .ok (.aload_n 0, 1) := by decide +kernel
theorem dX6_restart_25 : decode cX6_restart 25 = .ok (.getfield 25, 3) := by decide +kernel
theorem dX6_restart_28 : decode cX6_restart 28 = .ok (.iconst 0, 1) := by decide +kernel
theorem dX6_restart_29 : decode cX6_restart 29 = .ok (.invokestatic 38, 3) := by decide +kernel
theorem dX6_restart_32 : decode cX6_restart 32 = .ok (.aload_n 0, 1) := by decide +kernel
theorem dX6_restart_33 : decode cX6_restart 33 = .ok (.getfield 28, 3) := by decide +kernel
theorem dX6_restart_36 : decode cX6_restart 36 = .ok (.iconst 0, 1) := by decide +kernel
theorem dX6_restart_37 : decode cX6_restart 37 = .ok (.invokestatic 38, 3) := by decide +kernel
theorem dX6_restart_40 : decode cX6_restart 40 = .ok (.aload_n 0, 1) := by decide +kernel
theorem dX6_restart_41 : decode cX6_restart 41 = .ok (.getfield 31, 3) := by decide +kernel
theorem dX6_restart_44 : decode cX6_restart 44 = .ok (.iconst 0, 1) := by decide +kernel
theorem dX6_restart_45 : decode cX6_restart 45 = .ok (.invokestatic 38, 3) := by decide +kernel
theorem dX6_restart_48 : decode cX6_restart 48 = .ok (.aload_n 0, 1) := by decide +kernel
theorem dX6_restart_49 : decode cX6_restart 49 = .ok (.iconst 0, 1) := by decide +kernel
theorem dX6_restart_50 : decode cX6_restart 50 = .ok (.putfield 44, 3) := by decide +kernel
theorem dX6_restart_53 : decode cX6_restart 53 = .ok (.return_, 1) := by decide +kernel
theorem dX6_obey_0 : decode cX6_obey 0 = .ok (.aload_n 1, 1) := by decide +kernel
theorem dX6_obey_1 : decode cX6_obey 1 = .ok (.getfield 48, 3) := by decide +kernel
theorem dX6_obey_4 : decode cX6_obey 4 = .ok (.tableswitch 174 0 5 #[40, 76, 99, 99, 108, 141], 40) := by decide +kernel
theorem dX6_obey_44 : decode cX6_obey 44 = .ok (.aload_n 1, 1) := by decide +kernel
theorem dX6_obey_45 : decode cX6_obey 45 = .ok (.getfield 54, 3) := by decide +kernel
theorem dX6_obey_48 : decode cX6_obey 48 = .ok (.invokestatic 57, 3) := by decide +kernel
theorem dX6_obey_51 : decode cX6_obey 51 = .ok (.ifCond .eq 127, 3) := by decide +kernel
theorem dX6_obey_54 : decode cX6_obey 54 = .ok (.aload_n 2, 1) := by decide +kernel
theorem dX6_obey_55 : decode cX6_obey 55 = .ok (.iconst 0, 1) := by decide +kernel
theorem dX6_obey_56 : decode cX6_obey 56 = .ok (.aload_n 0, 1) := by decide +kernel
theorem dX6_obey_57 : decode cX6_obey 57 = .ok (.getfield 18, 3) := by decide +kernel
theorem dX6_obey_60 : decode cX6_obey 60 = .ok (.aload_n 1, 1) := by decide +kernel
theorem dX6_obey_61 : decode cX6_obey 61 = .ok (.getfield 54, 3) := by decide +kernel
theorem dX6_obey_64 : decode cX6_obey 64 = .ok (.iaload, 1) := by decide +kernel
theorem dX6_obey_65 : decode cX6_obey 65 = .ok (.aload_n 0, 1) := by decide +kernel
theorem dX6_obey_66 : decode cX6_obey 66 = .ok (.getfield 22, 3) := by decide +kernel
theorem dX6_obey_69 : decode cX6_obey 69 = .ok (.aload_n 1, 1) := by decide +kernel
theorem dX6_obey_70 : decode cX6_obey 70 = .ok (.getfield 54, 3) := by decide +kernel
theorem dX6_obey_73 : decode cX6_obey 73 = .ok (.iaload, 1) := by decide +kernel
theorem dX6_obey_74 : decode cX6_obey 74 = .ok (.invokevirtual 61, 3) := by decide +kernel
theorem dX6_obey_77 : decode cX6_obey 77 = .ok (.goto 101, 3) := by decide +kernel
theorem dX6_obey_80 : decode cX6_obey 80 = .ok (.aload_n 0, 1) := by decide +kernel
theorem dX6_obey_81 : decode cX6_obey 81 = .ok (.aload_n 1, 1) := by decide +kernel
theorem dX6_obey_82 : decode cX6_obey 82 = .ok (.getfield 54, 3) := by decide +kernel
theorem dX6_obey_85 : decode cX6_obey 85 = .ok (.aload_n 1, 1) := by decide +kernel
theorem dX6_obey_86 : decode cX6_obey 86 = .ok (.getfield 65, 3) := by decide +kernel
theorem dX6_obey_89 : decode cX6_obey 89 = .ok (.iconst 0, 1) := by decide +kernel
theorem dX6_obey_90 : decode cX6_obey 90 = .ok (.iaload, 1) := by decide +kernel
theorem dX6_obey_91 : decode cX6_obey 91 = .ok (.aload_n 1, 1) := by decide +kernel
theorem dX6_obey_92 : decode cX6_obey 92 = .ok (.getfield 68, 3) := by decide +kernel
theorem dX6_obey_95 : decode cX6_obey 95 = .ok (.iconst 0, 1) := by decide +kernel
theorem dX6_obey_96 : decode cX6_obey 96 = .ok (.iaload, 1) := by decide +kernel
theorem dX6_obey_97 : decode cX6_obey 97 = .ok (.invokevirtual 71, 3) := by decide +kernel
theorem dX6_obey_100 : decode cX6_obey 100 = .ok (.goto 78, 3) := by decide +kernel
theorem dX6_obey_103 : decode cX6_obey 103 = .ok (.aload_n 0, 1) := by decide +kernel
theorem dX6_obey_104 : decode cX6_obey 104 = .ok (.aload_n 1, 1) := by decide +kernel
theorem dX6_obey_105 : decode cX6_obey 105 = .ok (.aload_n 2, 1) := by decide +kernel
theorem dX6_obey_106 : decode cX6_obey 106 = .ok (.invokevirtual 74, 3) := by decide +kernel
theorem dX6_obey_109 : decode cX6_obey 109 = .ok (.goto 69, 3) := by decide +kernel
theorem dX6_obey_112 : decode cX6_obey 112 = .ok (.iconst 0, 1) := by decide +kernel
theorem dX6_obey_113 : decode cX6_obey 113 = .ok (.istore_n 3, 1) := by decide +kernel
theorem dX6_obey_114 : decode cX6_obey 114 = .ok (.iload_n 3, 1) := by decide +kernel
theorem dX6_obey_115 : decode cX6_obey 115 = .ok (.iconst 3, 1) := by decide +kernel
theorem dX6_obey_116 : decode cX6_obey 116 = .ok (.if_icmp .ge 26, 3) := by decide +kernel
theorem dX6_obey_119 : decode cX6_obey 119 = .ok (.aload_n 2, 1) := by decide +kernel
theorem dX6_obey_120 : decode cX6_obey 120 = .ok (.iload_n 3, 1) := by decide +kernel
theorem dX6_obey_121 : decode cX6_obey 121 = .ok (.aload_n 0, 1) := by decide +kernel
theorem dX6_obey_122 : decode cX6_obey 122 = .ok (.getfield 18, 3) := by decide +kernel
theorem dX6_obey_125 : decode cX6_obey 125 = .ok (.iload_n 3, 1) := by decide +kernel
theorem dX6_obey_126 : decode cX6_obey 126 = .ok (.iaload, 1) := by decide +kernel
theorem dX6_obey_127 : decode cX6_obey 127 = .ok (.aload_n 0, 1) := by decide +kernel
theorem dX6_obey_128 : decode cX6_obey 128 = .ok (.getfield 22, 3) := by decide +kernel
theorem dX6_obey_131 : decode cX6_obey 131 = .ok (.iload_n 3, 1) := by decide +kernel
theorem dX6_obey_132 : decode cX6_obey 132 = .ok (.iaload, 1) := by decide +kernel
theorem dX6_obey_133 : decode cX6_obey 133 = .ok (.invokevirtual 61, 3) := by decide +kernel
theorem dX6_obey_136 : decode cX6_obey 136 = .ok (.iinc 3 1, 3) := by decide +kernel
theorem dX6_obey_139 : decode cX6_obey 139 = .ok (.goto (-25), 3) := by decide +kernel
theorem dX6_obey_142 : decode cX6_obey 142 = .ok (.goto 36, 3) := by decide +kernel
theorem dX6_obey_145 : decode cX6_obey 145 = .ok (.iconst 0, 1) := by decide +kernel
theorem dX6_obey_146 : decode cX6_obey 146 = .ok (.istore_n 3, 1) := by decide +kernel
theorem dX6_obey_147 : decode cX6_obey 147 = .ok (.iload_n 3, 1) := by decide +kernel
theorem dX6_obey_148 : decode cX6_obey 148 = .ok (.iconst 3, 1) := by decide +kernel
theorem dX6_obey_149 : decode cX6_obey 149 = .ok (.if_icmp .ge 26, 3) := by decide +kernel
theorem dX6_obey_152 : decode cX6_obey 152 = .ok (.aload_n 0, 1) := by decide +kernel
theorem dX6_obey_153 : decode cX6_obey 153 = .ok (.iload_n 3, 1) := by decide +kernel
theorem dX6_obey_154 : decode cX6_obey 154 = .ok (.aload_n 1, 1) := by decide +kernel
theorem dX6_obey_155 : decode cX6_obey 155 = .ok (.getfield 65, 3) := by decide +kernel
theorem dX6_obey_158 : decode cX6_obey 158 = .ok (.iload_n 3, 1) := by decide +kernel
theorem dX6_obey_159 : decode cX6_obey 159 = .ok (.iaload, 1) := by decide +kernel
theorem dX6_obey_160 : decode cX6_obey 160 = .ok (.aload_n 1, 1) := by decide +kernel
theorem dX6_obey_161 : decode cX6_obey 161 = .ok (.getfield 68, 3) := by decide +kernel
theorem dX6_obey_164 : decode cX6_obey 164 = .ok (.iload_n 3, 1) := by decide +kernel
theorem dX6_obey_165 : decode cX6_obey 165 = .ok (.iaload, 1) := by decide +kernel
theorem dX6_obey_166 : decode cX6_obey 166 = .ok (.invokevirtual 71, 3) := by decide +kernel
theorem dX6_obey_169 : decode cX6_obey 169 = .ok (.iinc 3 1, 3) := by decide +kernel
theorem dX6_obey_172 : decode cX6_obey 172 = .ok (.goto (-25), 3) := by decide +kernel
theorem dX6_obey_175 : decode cX6_obey 175 = .ok (.goto 3, 3) := by decide +kernel
theorem dX6_obey_178 : decode cX6_obey 178 = .ok (.return_, 1) := by decide +kernel
theorem dX6_learn_0 : decode cX6_learn 0 = .ok (.iload_n 1, 1) := by decide +kernel
theorem dX6_learn_1 : decode cX6_learn 1 = .ok (.invokestatic 57, 3) := by decide +kernel
theorem dX6_learn_4 : decode cX6_learn 4 = .ok (.ifCond .eq 27, 3) := by decide +kernel
theorem dX6_learn_7 : decode cX6_learn 7 = .ok (.aload_n 0, 1) := by decide +kernel
theorem dX6_learn_8 : decode cX6_learn 8 = .ok (.getfield 18, 3) := by decide +kernel
theorem dX6_learn_11 : decode cX6_learn 11 = .ok (.iload_n 1, 1) := by decide +kernel
theorem dX6_learn_12 : decode cX6_learn 12 = .ok (.iaload, 1) := by decide +kernel
theorem dX6_learn_13 : decode cX6_learn 13 = .ok (.iload_n 2, 1) := by decide +kernel
theorem dX6_learn_14 : decode cX6_learn 14 = .ok (.if_icmp .ge 17, 3) := by decide +kernel
theorem dX6_learn_17 : decode cX6_learn 17 = .ok (.aload_n 0, 1) := by decide +kernel
theorem dX6_learn_18 : decode cX6_learn 18 = .ok (.getfield 18, 3) := by decide +kernel
theorem dX6_learn_21 : decode cX6_learn 21 = .ok (.iload_n 1, 1) := by decide +kernel
theorem dX6_learn_22 : decode cX6_learn 22 = .ok (.iload_n 2, 1) := by decide +kernel
theorem dX6_learn_23 : decode cX6_learn 23 = .ok (.iastore, 1) := by decide +kernel
theorem dX6_learn_24 : decode cX6_learn 24 = .ok (.aload_n 0, 1) := by decide +kernel
theorem dX6_learn_25 : decode cX6_learn 25 = .ok (.getfield 22, 3) := by decide +kernel
theorem dX6_learn_28 : decode cX6_learn 28 = .ok (.iload_n 1, 1) := by decide +kernel
theorem dX6_learn_29 : decode cX6_learn 29 = .ok (.iload_n 3, 1) := by decide +kernel
theorem dX6_learn_30 : decode cX6_learn 30 = .ok (.iastore, 1) := by decide +kernel
theorem dX6_learn_31 : decode cX6_learn 31 = .ok (.return_, 1) := by decide +kernel
theorem dX6_castVote_0 : decode cX6_castVote 0 = .ok (.aload_n 1, 1) := by decide +kernel
theorem dX6_castVote_1 : decode cX6_castVote 1 = .ok (.getfield 54, 3) := by decide +kernel
theorem dX6_castVote_4 : decode cX6_castVote 4 = .ok (.istore_n 3, 1) := by decide +kernel
theorem dX6_castVote_5 : decode cX6_castVote 5 = .ok (.aload_n 1, 1) := by decide +kernel
theorem dX6_castVote_6 : decode cX6_castVote 6 = .ok (.getfield 65, 3) := by decide +kernel
theorem dX6_castVote_9 : decode cX6_castVote 9 = .ok (.iconst 0, 1) := by decide +kernel
theorem dX6_castVote_10 : decode cX6_castVote 10 = .ok (.iaload, 1) := by decide +kernel
theorem dX6_castVote_11 : decode cX6_castVote 11 = .ok (.istore 4, 2) := by decide +kernel
theorem dX6_castVote_13 : decode cX6_castVote 13 = .ok (.iload_n 3, 1) := by decide +kernel
theorem dX6_castVote_14 : decode cX6_castVote 14 = .ok (.ifCond .lt 8, 3) := by decide +kernel
theorem dX6_castVote_17 : decode cX6_castVote 17 = .ok (.iload_n 3, 1) := by decide +kernel
theorem dX6_castVote_18 : decode cX6_castVote 18 = .ok (.iconst 5, 1) := by decide +kernel
theorem dX6_castVote_19 : decode cX6_castVote 19 = .ok (.if_icmp .lt 4, 3) := by decide +kernel
theorem dX6_castVote_22 : decode cX6_castVote 22 = .ok (.return_, 1) := by decide +kernel
theorem dX6_castVote_23 : decode cX6_castVote 23 = .ok (.aload_n 1, 1) := by decide +kernel
theorem dX6_castVote_24 : decode cX6_castVote 24 = .ok (.getfield 48, 3) := by decide +kernel
theorem dX6_castVote_27 : decode cX6_castVote 27 = .ok (.iconst 2, 1) := by decide +kernel
theorem dX6_castVote_28 : decode cX6_castVote 28 = .ok (.if_icmp .ne 42, 3) := by decide +kernel
theorem dX6_castVote_31 : decode cX6_castVote 31 = .ok (.aload_n 0, 1) := by decide +kernel
theorem dX6_castVote_32 : decode cX6_castVote 32 = .ok (.getfield 25, 3) := by decide +kernel
theorem dX6_castVote_35 : decode cX6_castVote 35 = .ok (.iload_n 3, 1) := by decide +kernel
theorem dX6_castVote_36 : decode cX6_castVote 36 = .ok (.iaload, 1) := by decide +kernel
theorem dX6_castVote_37 : decode cX6_castVote 37 = .ok (.iload 4, 2) := by decide +kernel
theorem dX6_castVote_39 : decode cX6_castVote 39 = .ok (.if_icmp .ge 31, 3) := by decide +kernel
theorem dX6_castVote_42 : decode cX6_castVote 42 = .ok (.aload_n 0, 1) := by decide +kernel
theorem dX6_castVote_43 : decode cX6_castVote 43 = .ok (.getfield 25, 3) := by decide +kernel
theorem dX6_castVote_46 : decode cX6_castVote 46 = .ok (.iload_n 3, 1) := by decide +kernel
theorem dX6_castVote_47 : decode cX6_castVote 47 = .ok (.iload 4, 2) := by decide +kernel
theorem dX6_castVote_49 : decode cX6_castVote 49 = .ok (.iastore, 1) := by decide +kernel
theorem dX6_castVote_50 : decode cX6_castVote 50 = .ok (.aload_n 2, 1) := by decide +kernel
theorem dX6_castVote_51 : decode cX6_castVote 51 = .ok (.iconst 0, 1) := by decide +kernel
theorem dX6_castVote_52 : decode cX6_castVote 52 = .ok (.aload_n 0, 1) := by decide +kernel
theorem dX6_castVote_53 : decode cX6_castVote 53 = .ok (.getfield 28, 3) := by decide +kernel
theorem dX6_castVote_56 : decode cX6_castVote 56 = .ok (.iload_n 3, 1) := by decide +kernel
theorem dX6_castVote_57 : decode cX6_castVote 57 = .ok (.iaload, 1) := by decide +kernel
theorem dX6_castVote_58 : decode cX6_castVote 58 = .ok (.aload_n 0, 1) := by decide +kernel
theorem dX6_castVote_59 : decode cX6_castVote 59 = .ok (.getfield 31, 3) := by decide +kernel
theorem dX6_castVote_62 : decode cX6_castVote 62 = .ok (.iload_n 3, 1) := by decide +kernel
theorem dX6_castVote_63 : decode cX6_castVote 63 = .ok (.iaload, 1) := by decide +kernel
theorem dX6_castVote_64 : decode cX6_castVote 64 = .ok (.invokevirtual 61, 3) := by decide +kernel
theorem dX6_castVote_67 : decode cX6_castVote 67 = .ok (.goto 70, 3) := by decide +kernel
theorem dX6_castVote_70 : decode cX6_castVote 70 = .ok (.aload_n 1, 1) := by decide +kernel
theorem dX6_castVote_71 : decode cX6_castVote 71 = .ok (.getfield 48, 3) := by decide +kernel
theorem dX6_castVote_74 : decode cX6_castVote 74 = .ok (.iconst 3, 1) := by decide +kernel
theorem dX6_castVote_75 : decode cX6_castVote 75 = .ok (.if_icmp .ne 45, 3) := by decide +kernel
theorem dX6_castVote_78 : decode cX6_castVote 78 = .ok (.aload_n 0, 1) := by decide +kernel
theorem dX6_castVote_79 : decode cX6_castVote 79 = .ok (.getfield 25, 3) := by decide +kernel
theorem dX6_castVote_82 : decode cX6_castVote 82 = .ok (.iload_n 3, 1) := by decide +kernel
theorem dX6_castVote_83 : decode cX6_castVote 83 = .ok (.iaload, 1) := by decide +kernel
theorem dX6_castVote_84 : decode cX6_castVote 84 = .ok (.iload 4, 2) := by decide +kernel
theorem dX6_castVote_86 : decode cX6_castVote 86 = .ok (.if_icmp .gt 34, 3) := by decide +kernel
theorem dX6_castVote_89 : decode cX6_castVote 89 = .ok (.aload_n 0, 1) := by decide +kernel
theorem dX6_castVote_90 : decode cX6_castVote 90 = .ok (.getfield 25, 3) := by decide +kernel
theorem dX6_castVote_93 : decode cX6_castVote 93 = .ok (.iload_n 3, 1) := by decide +kernel
theorem dX6_castVote_94 : decode cX6_castVote 94 = .ok (.iload 4, 2) := by decide +kernel
theorem dX6_castVote_96 : decode cX6_castVote 96 = .ok (.iastore, 1) := by decide +kernel
theorem dX6_castVote_97 : decode cX6_castVote 97 = .ok (.aload_n 0, 1) := by decide +kernel
theorem dX6_castVote_98 : decode cX6_castVote 98 = .ok (.getfield 28, 3) := by decide +kernel
theorem dX6_castVote_101 : decode cX6_castVote 101 = .ok (.iload_n 3, 1) := by decide +kernel
theorem dX6_castVote_102 : decode cX6_castVote 102 = .ok (.iload 4, 2) := by decide +kernel
theorem dX6_castVote_104 : decode cX6_castVote 104 = .ok (.iastore, 1) := by decide +kernel
theorem dX6_castVote_105 : decode cX6_castVote 105 = .ok (.aload_n 0, 1) := by decide +kernel
theorem dX6_castVote_106 : decode cX6_castVote 106 = .ok (.getfield 31, 3) := by decide +kernel
theorem dX6_castVote_109 : decode cX6_castVote 109 = .ok (.iload_n 3, 1) := by decide +kernel
theorem dX6_castVote_110 : decode cX6_castVote 110 = .ok (.aload_n 1, 1) := by decide +kernel
theorem dX6_castVote_111 : decode cX6_castVote 111 = .ok (.getfield 68, 3) := by decide +kernel
theorem dX6_castVote_114 : decode cX6_castVote 114 = .ok (.iconst 0, 1) := by decide +kernel
theorem dX6_castVote_115 : decode cX6_castVote 115 = .ok (.iaload, 1) := by decide +kernel
theorem dX6_castVote_116 : decode cX6_castVote 116 = .ok (.iastore, 1) := by decide +kernel
theorem dX6_castVote_117 : decode cX6_castVote 117 = .ok (.goto 20, 3) := by decide +kernel
theorem dX6_castVote_120 : decode cX6_castVote 120 = .ok (.aload_n 2, 1) := by decide +kernel
theorem dX6_castVote_121 : decode cX6_castVote 121 = .ok (.iconst 0, 1) := by decide +kernel
theorem dX6_castVote_122 : decode cX6_castVote 122 = .ok (.aload_n 0, 1) := by decide +kernel
theorem dX6_castVote_123 : decode cX6_castVote 123 = .ok (.getfield 25, 3) := by decide +kernel
theorem dX6_castVote_126 : decode cX6_castVote 126 = .ok (.iload_n 3, 1) := by decide +kernel
theorem dX6_castVote_127 : decode cX6_castVote 127 = .ok (.iaload, 1) := by decide +kernel
theorem dX6_castVote_128 : decode cX6_castVote 128 = .ok (.iconst 0, 1) := by decide +kernel
theorem dX6_castVote_129 : decode cX6_castVote 129 = .ok (.invokevirtual 61, 3) := by decide +kernel
theorem dX6_castVote_132 : decode cX6_castVote 132 = .ok (.aload_n 2, 1) := by decide +kernel
theorem dX6_castVote_133 : decode cX6_castVote 133 = .ok (.iconst 1, 1) := by decide +kernel
theorem dX6_castVote_134 : decode cX6_castVote 134 = .ok (.putfield 78, 3) := by decide +kernel
theorem dX6_castVote_137 : decode cX6_castVote 137 = .ok (.return_, 1) := by decide +kernel
theorem dX7_init_0 : decode cX7_init 0 = .ok (.aload_n 0, 1) := by decide +kernel
theorem dX7_init_1 : decode cX7_init 1 = .ok (.invokespecial 3, 3) := by decide +kernel
theorem dX7_init_4 : decode cX7_init 4 = .ok (.aload_n 0, 1) := by decide +kernel
theorem dX7_init_5 : decode cX7_init 5 = .ok (.bipush 6, 2) := by decide +kernel
theorem dX7_init_7 : decode cX7_init 7 = .ok (.newarray .int, 2) := by decide +kernel
theorem dX7_init_9 : decode cX7_init 9 = .ok (.putfield 9, 3) := by decide +kernel
theorem dX7_init_12 : decode cX7_init 12 = .ok (.return_, 1) := by decide +kernel
theorem dX7_restart_0 : decode cX7_restart 0 = .ok (.aload_n 0, 1) := by decide +kernel
theorem dX7_restart_1 : decode cX7_restart 1 = .ok (.getfield 9, 3) := by decide +kernel
theorem dX7_restart_4 : decode cX7_restart 4 = .ok (.iconst 0, 1) := by decide +kernel
theorem dX7_restart_5 : decode cX7_restart 5 = .ok (.invokestatic 15, 3) := by decide +kernel
theorem dX7_restart_8 : decode cX7_restart 8 = .ok (.aload_n 0, 1) := by decide +kernel
theorem dX7_restart_9 : decode cX7_restart 9 = .ok (.getfield 9, 3) := by decide +kernel
theorem dX7_restart_12 : decode cX7_restart 12 = .ok (.iconst 0, 1) := by decide +kernel
theorem dX7_restart_13 : decode cX7_restart 13 = .ok (.iload_n 1, 1) := by decide +kernel
theorem dX7_restart_14 : decode cX7_restart 14 = .ok (.iastore, 1) := by decide +kernel
theorem dX7_restart_15 : decode cX7_restart 15 = .ok (.return_, 1) := by decide +kernel
theorem dX7_at_0 : decode cX7_at 0 = .ok (.iload_n 1, 1) := by decide +kernel
theorem dX7_at_1 : decode cX7_at 1 = .ok (.ifCond .lt 21, 3) := by decide +kernel
theorem dX7_at_4 : decode cX7_at 4 = .ok (.iload_n 1, 1) := by decide +kernel
theorem dX7_at_5 : decode cX7_at 5 = .ok (.aload_n 0, 1) := by decide +kernel
theorem dX7_at_6 : decode cX7_at 6 = .ok (.getfield 9, 3) := by decide +kernel
theorem dX7_at_9 : decode cX7_at 9 = .ok (.arraylength, 1) := by decide +kernel
theorem dX7_at_10 : decode cX7_at 10 = .ok (.if_icmp .ge 12, 3) := by decide +kernel
theorem dX7_at_13 : decode cX7_at 13 = .ok (.aload_n 0, 1) := by decide +kernel
theorem dX7_at_14 : decode cX7_at 14 = .ok (.getfield 9, 3) := by decide +kernel
theorem dX7_at_17 : decode cX7_at 17 = .ok (.iload_n 1, 1) := by decide +kernel
theorem dX7_at_18 : decode cX7_at 18 = .ok (.iaload, 1) := by decide +kernel
theorem dX7_at_19 : decode cX7_at 19 = .ok (.goto 4, 3) := by decide +kernel
theorem dX7_at_22 : decode cX7_at 22 = .ok (.iconst 0, 1) := by decide +kernel
theorem dX7_at_23 : decode cX7_at 23 = .ok (.ireturn, 1) := by decide +kernel
theorem dX7_put_0 : decode cX7_put 0 = .ok (.iload_n 1, 1) := by decide +kernel
theorem dX7_put_1 : decode cX7_put 1 = .ok (.ifCond .lt 19, 3) := by decide +kernel
theorem dX7_put_4 : decode cX7_put 4 = .ok (.iload_n 1, 1) := by decide +kernel
theorem dX7_put_5 : decode cX7_put 5 = .ok (.aload_n 0, 1) := by decide +kernel
theorem dX7_put_6 : decode cX7_put 6 = .ok (.getfield 9, 3) := by decide +kernel
theorem dX7_put_9 : decode cX7_put 9 = .ok (.arraylength, 1) := by decide +kernel
theorem dX7_put_10 : decode cX7_put 10 = .ok (.if_icmp .ge 10, 3) := by decide +kernel
theorem dX7_put_13 : decode cX7_put 13 = .ok (.aload_n 0, 1) := by decide +kernel
theorem dX7_put_14 : decode cX7_put 14 = .ok (.getfield 9, 3) := by decide +kernel
theorem dX7_put_17 : decode cX7_put 17 = .ok (.iload_n 1, 1) := by decide +kernel
theorem dX7_put_18 : decode cX7_put 18 = .ok (.iload_n 2, 1) := by decide +kernel
theorem dX7_put_19 : decode cX7_put 19 = .ok (.iastore, 1) := by decide +kernel
theorem dX7_put_20 : decode cX7_put 20 = .ok (.return_, 1) := by decide +kernel
theorem dX7_copyFrom_0 : decode cX7_copyFrom 0 = .ok (.aload_n 1, 1) := by decide +kernel
theorem dX7_copyFrom_1 : decode cX7_copyFrom 1 = .ok (.getfield 9, 3) := by decide +kernel
theorem dX7_copyFrom_4 : decode cX7_copyFrom 4 = .ok (.iconst 0, 1) := by decide +kernel
theorem dX7_copyFrom_5 : decode cX7_copyFrom 5 = .ok (.aload_n 0, 1) := by decide +kernel
theorem dX7_copyFrom_6 : decode cX7_copyFrom 6 = .ok (.getfield 9, 3) := by decide +kernel
theorem dX7_copyFrom_9 : decode cX7_copyFrom 9 = .ok (.iconst 0, 1) := by decide +kernel
theorem dX7_copyFrom_10 : decode cX7_copyFrom 10 = .ok (.bipush 6, 2) := by decide +kernel
theorem dX7_copyFrom_12 : decode cX7_copyFrom 12 = .ok (.invokestatic 21, 3) := by decide +kernel
theorem dX7_copyFrom_15 : decode cX7_copyFrom 15 = .ok (.return_, 1) := by decide +kernel
theorem dX7_join_0 : decode cX7_join 0 = .ok (.iconst 0, 1) := by decide +kernel
theorem dX7_join_1 : decode cX7_join 1 = .ok (.istore_n 2, 1) := by decide +kernel
theorem dX7_join_2 : decode cX7_join 2 = .ok (.iload_n 2, 1) := by decide +kernel
theorem dX7_join_3 : decode cX7_join 3 = .ok (.bipush 6, 2) := by decide +kernel
theorem dX7_join_5 : decode cX7_join 5 = .ok (.if_icmp .ge 40, 3) := by decide +kernel
theorem dX7_join_8 : decode cX7_join 8 = .ok (.aload_n 1, 1) := by decide +kernel
theorem dX7_join_9 : decode cX7_join 9 = .ok (.getfield 9, 3) := by decide +kernel
theorem dX7_join_12 : decode cX7_join 12 = .ok (.iload_n 2, 1) := by decide +kernel
theorem dX7_join_13 : decode cX7_join 13 = .ok (.iaload, 1) := by decide +kernel
theorem dX7_join_14 : decode cX7_join 14 = .ok (.iconst (-1), 1) := by decide +kernel
theorem dX7_join_15 : decode cX7_join 15 = .ok (.if_icmp .eq 12, 3) := by decide +kernel
theorem dX7_join_18 : decode cX7_join 18 = .ok (.aload_n 0, 1) := by decide +kernel
theorem dX7_join_19 : decode cX7_join 19 = .ok (.getfield 9, 3) := by decide +kernel
theorem dX7_join_22 : decode cX7_join 22 = .ok (.iload_n 2, 1) := by decide +kernel
theorem dX7_join_23 : decode cX7_join 23 = .ok (.iaload, 1) := by decide +kernel
theorem dX7_join_24 : decode cX7_join 24 = .ok (.ifCond .ne 15, 3) := by decide +kernel
theorem dX7_join_27 : decode cX7_join 27 = .ok (.aload_n 0, 1) := by decide +kernel
theorem dX7_join_28 : decode cX7_join 28 = .ok (.getfield 9, 3) := by decide +kernel
theorem dX7_join_31 : decode cX7_join 31 = .ok (.iload_n 2, 1) := by decide +kernel
theorem dX7_join_32 : decode cX7_join 32 = .ok (.aload_n 1, 1) := by decide +kernel
theorem dX7_join_33 : decode cX7_join 33 = .ok (.getfield 9, 3) := by decide +kernel
theorem dX7_join_36 : decode cX7_join 36 = .ok (.iload_n 2, 1) := by decide +kernel
theorem dX7_join_37 : decode cX7_join 37 = .ok (.iaload, 1) := by decide +kernel
theorem dX7_join_38 : decode cX7_join 38 = .ok (.iastore, 1) := by decide +kernel
theorem dX7_join_39 : decode cX7_join 39 = .ok (.iinc 2 1, 3) := by decide +kernel
theorem dX7_join_42 : decode cX7_join 42 = .ok (.goto (-40), 3) := by decide +kernel
theorem dX7_join_45 : decode cX7_join 45 = .ok (.return_, 1) := by decide +kernel
theorem dX7_greatestKnown_0 : decode cX7_greatestKnown 0 = .ok (.iconst 0, 1) := by decide +kernel
theorem dX7_greatestKnown_1 : decode cX7_greatestKnown 1 = .ok (.istore_n 1, 1) := by decide +kernel
theorem dX7_greatestKnown_2 : decode cX7_greatestKnown 2 = .ok (.iconst 0, 1) := by decide +kernel
theorem dX7_greatestKnown_3 : decode cX7_greatestKnown 3 = .ok (.istore_n 2, 1) := by decide +kernel
theorem dX7_greatestKnown_4 : decode cX7_greatestKnown 4 = .ok (.iload_n 2, 1) := by decide +kernel
theorem dX7_greatestKnown_5 : decode cX7_greatestKnown 5 = .ok (.bipush 6, 2) := by decide +kernel
theorem dX7_greatestKnown_7 : decode cX7_greatestKnown 7 = .ok (.if_icmp .ge 20, 3) := by decide +kernel
theorem dX7_greatestKnown_10 : decode cX7_greatestKnown 10 = .ok (.aload_n 0, 1) := by decide +kernel
theorem dX7_greatestKnown_11 : decode cX7_greatestKnown 11 = .ok (.getfield 9, 3) := by decide +kernel
theorem dX7_greatestKnown_14 : decode cX7_greatestKnown 14 = .ok (.iload_n 2, 1) := by decide +kernel
theorem dX7_greatestKnown_15 : decode cX7_greatestKnown 15 = .ok (.iaload, 1) := by decide +kernel
theorem dX7_greatestKnown_16 : decode cX7_greatestKnown 16 = .ok (.ifCond .eq 5, 3) := by decide +kernel
theorem dX7_greatestKnown_19 : decode cX7_greatestKnown 19 = .ok (.iload_n 2, 1) := by decide +kernel
theorem dX7_greatestKnown_20 : decode cX7_greatestKnown 20 = .ok (.istore_n 1, 1) := by decide +kernel
theorem dX7_greatestKnown_21 : decode cX7_greatestKnown 21 = .ok (.iinc 2 1, 3) := by decide +kernel
theorem dX7_greatestKnown_24 : decode cX7_greatestKnown 24 = .ok (.goto (-20), 3) := by decide +kernel
theorem dX7_greatestKnown_27 : decode cX7_greatestKnown 27 = .ok (.iload_n 1, 1) := by decide +kernel
theorem dX7_greatestKnown_28 : decode cX7_greatestKnown 28 = .ok (.ireturn, 1) := by decide +kernel
theorem dX7_leastActive_0 : decode cX7_leastActive 0 = .ok (.iconst 0, 1) := by decide +kernel
theorem dX7_leastActive_1 : decode cX7_leastActive 1 = .ok (.istore_n 1, 1) := by decide +kernel
theorem dX7_leastActive_2 : decode cX7_leastActive 2 = .ok (.iload_n 1, 1) := by decide +kernel
theorem dX7_leastActive_3 : decode cX7_leastActive 3 = .ok (.bipush 6, 2) := by decide +kernel
theorem dX7_leastActive_5 : decode cX7_leastActive 5 = .ok (.if_icmp .ge 23, 3) := by decide +kernel
theorem dX7_leastActive_8 : decode cX7_leastActive 8 = .ok (.aload_n 0, 1) := by decide +kernel
theorem dX7_leastActive_9 : decode cX7_leastActive 9 = .ok (.getfield 9, 3) := by decide +kernel
theorem dX7_leastActive_12 : decode cX7_leastActive 12 = .ok (.iload_n 1, 1) := by decide +kernel
theorem dX7_leastActive_13 : decode cX7_leastActive 13 = .ok (.iaload, 1) := by decide +kernel
theorem dX7_leastActive_14 : decode cX7_leastActive 14 = .ok (.invokestatic 27, 3) := by decide +kernel
theorem dX7_leastActive_17 : decode cX7_leastActive 17 = .ok (.ifCond .eq 5, 3) := by decide +kernel
theorem dX7_leastActive_20 : decode cX7_leastActive 20 = .ok (.iload_n 1, 1) := by decide +kernel
theorem dX7_leastActive_21 : decode cX7_leastActive 21 = .ok (.ireturn, 1) := by decide +kernel
theorem dX7_leastActive_22 : decode cX7_leastActive 22 = .ok (.iinc 1 1, 3) := by decide +kernel
theorem dX7_leastActive_25 : decode cX7_leastActive 25 = .ok (.goto (-23), 3) := by decide +kernel
theorem dX7_leastActive_28 : decode cX7_leastActive 28 = .ok (.iconst (-1), 1) := by decide +kernel
theorem dX7_leastActive_29 : decode cX7_leastActive 29 = .ok (.ireturn, 1) := by decide +kernel
theorem dX7_activeServers_0 : decode cX7_activeServers 0 = .ok (.iconst 0, 1) := by decide +kernel
theorem dX7_activeServers_1 : decode cX7_activeServers 1 = .ok (.istore_n 1, 1) := by decide +kernel
theorem dX7_activeServers_2 : decode cX7_activeServers 2 = .ok (.aload_n 0, 1) := by decide +kernel
theorem dX7_activeServers_3 : decode cX7_activeServers 3 = .ok (.getfield 9, 3) := by decide +kernel
theorem dX7_activeServers_6 : decode cX7_activeServers 6 = .ok (.astore_n 2, 1) := by decide +kernel
theorem dX7_activeServers_7 : decode cX7_activeServers 7 = .ok (.aload_n 2, 1) := by decide +kernel
theorem dX7_activeServers_8 : decode cX7_activeServers 8 = .ok (.arraylength, 1) := by decide +kernel
theorem dX7_activeServers_9 : decode cX7_activeServers 9 = .ok (.istore_n 3, 1) := by decide +kernel
theorem dX7_activeServers_10 : decode cX7_activeServers 10 = .ok (.iconst 0, 1) := by decide +kernel
theorem dX7_activeServers_11 : decode cX7_activeServers 11 = .ok (.istore 4, 2) := by decide +kernel
theorem dX7_activeServers_13 : decode cX7_activeServers 13 = .ok (.iload 4, 2) := by decide +kernel
theorem dX7_activeServers_15 : decode cX7_activeServers 15 = .ok (.iload_n 3, 1) := by decide +kernel
theorem dX7_activeServers_16 : decode cX7_activeServers 16 = .ok (.if_icmp .ge 28, 3) := by decide +kernel
theorem dX7_activeServers_19 : decode cX7_activeServers 19 = .ok (.aload_n 2, 1) := by decide +kernel
theorem dX7_activeServers_20 : decode cX7_activeServers 20 = .ok (.iload 4, 2) := by decide +kernel
theorem dX7_activeServers_22 : decode cX7_activeServers 22 = .ok (.iaload, 1) := by decide +kernel
theorem dX7_activeServers_23 : decode cX7_activeServers 23 = .ok (.istore 5, 2) := by decide +kernel
theorem dX7_activeServers_25 : decode cX7_activeServers 25 = .ok (.iload 5, 2) := by decide +kernel
theorem dX7_activeServers_27 : decode cX7_activeServers 27 = .ok (.invokestatic 27, 3) := by decide +kernel
theorem dX7_activeServers_30 : decode cX7_activeServers 30 = .ok (.ifCond .eq 8, 3) := by decide +kernel
theorem dX7_activeServers_33 : decode cX7_activeServers 33 = .ok (.iload_n 1, 1) := by decide +kernel
theorem dX7_activeServers_34 : decode cX7_activeServers 34 = .ok (.iload 5, 2) := by decide +kernel
theorem dX7_activeServers_36 : decode cX7_activeServers 36 = .ok (.ior, 1) := by decide +kernel
theorem dX7_activeServers_37 : decode cX7_activeServers 37 = .ok (.istore_n 1, 1) := by decide +kernel
theorem dX7_activeServers_38 : decode cX7_activeServers 38 = .ok (.iinc 4 1, 3) := by decide +kernel
theorem dX7_activeServers_41 : decode cX7_activeServers 41 = .ok (.goto (-28), 3) := by decide +kernel
theorem dX7_activeServers_44 : decode cX7_activeServers 44 = .ok (.iload_n 1, 1) := by decide +kernel
theorem dX7_activeServers_45 : decode cX7_activeServers 45 = .ok (.ireturn, 1) := by decide +kernel
theorem dX7_eachActiveHasMajority_0 : decode cX7_eachActiveHasMajority 0 = .ok (.aload_n 0, 1) := by decide +kernel
theorem dX7_eachActiveHasMajority_1 : decode cX7_eachActiveHasMajority 1 = .ok (.getfield 9, 3) := by decide +kernel
theorem dX7_eachActiveHasMajority_4 : decode cX7_eachActiveHasMajority 4 = .ok (.astore_n 2, 1) := by decide +kernel
theorem dX7_eachActiveHasMajority_5 : decode cX7_eachActiveHasMajority 5 = .ok (.aload_n 2, 1) := by decide +kernel
theorem dX7_eachActiveHasMajority_6 : decode cX7_eachActiveHasMajority 6 = .ok (.arraylength, 1) := by decide +kernel
theorem dX7_eachActiveHasMajority_7 : decode cX7_eachActiveHasMajority 7 = .ok (.istore_n 3, 1) := by decide +kernel
theorem dX7_eachActiveHasMajority_8 : decode cX7_eachActiveHasMajority 8 = .ok (.iconst 0, 1) := by decide +kernel
theorem dX7_eachActiveHasMajority_9 : decode cX7_eachActiveHasMajority 9 = .ok (.istore 4, 2) := by decide +kernel
theorem dX7_eachActiveHasMajority_11 : decode cX7_eachActiveHasMajority 11 = .ok (.iload 4, 2) := by decide +kernel
theorem dX7_eachActiveHasMajority_13 : decode cX7_eachActiveHasMajority 13 = .ok (.iload_n 3, 1) := by decide +kernel
theorem dX7_eachActiveHasMajority_14 : decode cX7_eachActiveHasMajority 14 = .ok (.if_icmp .ge 34, 3) := by decide +kernel
theorem dX7_eachActiveHasMajority_17 : decode cX7_eachActiveHasMajority 17 = .ok (.aload_n 2, 1) := by decide +kernel
theorem dX7_eachActiveHasMajority_18 : decode cX7_eachActiveHasMajority 18 = .ok (.iload 4, 2) := by decide +kernel
theorem dX7_eachActiveHasMajority_20 : decode cX7_eachActiveHasMajority 20 = .ok (.iaload, 1) := by decide +kernel
theorem dX7_eachActiveHasMajority_21 : decode cX7_eachActiveHasMajority 21 = .ok (.istore 5, 2) := by decide +kernel
theorem dX7_eachActiveHasMajority_23 : decode cX7_eachActiveHasMajority 23 = .ok (.iload 5, 2) := by decide +kernel
theorem dX7_eachActiveHasMajority_25 : decode cX7_eachActiveHasMajority 25 = .ok (.invokestatic 27, 3) := by decide +kernel
theorem dX7_eachActiveHasMajority_28 : decode cX7_eachActiveHasMajority 28 = .ok (.ifCond .eq 14, 3) := by decide +kernel
theorem dX7_eachActiveHasMajority_31 : decode cX7_eachActiveHasMajority 31 = .ok (.iload 5, 2) := by decide +kernel
theorem dX7_eachActiveHasMajority_33 : decode cX7_eachActiveHasMajority 33 = .ok (.iload_n 1, 1) := by decide +kernel
theorem dX7_eachActiveHasMajority_34 : decode cX7_eachActiveHasMajority 34 = .ok (.invokestatic 31, 3) := by decide +kernel
theorem dX7_eachActiveHasMajority_37 : decode cX7_eachActiveHasMajority 37 = .ok (.ifCond .ne 5, 3) := by decide +kernel
theorem dX7_eachActiveHasMajority_40 : decode cX7_eachActiveHasMajority 40 = .ok (.iconst 0, 1) := by decide +kernel
theorem dX7_eachActiveHasMajority_41 : decode cX7_eachActiveHasMajority 41 = .ok (.ireturn, 1) := by decide +kernel
theorem dX7_eachActiveHasMajority_42 : decode cX7_eachActiveHasMajority 42 = .ok (.iinc 4 1, 3) := by decide +kernel
theorem dX7_eachActiveHasMajority_45 : decode cX7_eachActiveHasMajority 45 = .ok (.goto (-34), 3) := by decide +kernel
theorem dX7_eachActiveHasMajority_48 : decode cX7_eachActiveHasMajority 48 = .ok (.iconst 1, 1) := by decide +kernel
theorem dX7_eachActiveHasMajority_49 : decode cX7_eachActiveHasMajority 49 = .ok (.ireturn, 1) := by decide +kernel
theorem dX8_init_0 : decode cX8_init 0 = .ok (.aload_n 0, 1) := by decide +kernel
theorem dX8_init_1 : decode cX8_init 1 = .ok (.invokespecial 3, 3) := by decide +kernel
theorem dX8_init_4 : decode cX8_init 4 = .ok (.aload_n 0, 1) := by decide +kernel
theorem dX8_init_5 : decode cX8_init 5 = .ok (.bipush 7, 2) := by decide +kernel
theorem dX8_init_7 : decode cX8_init 7 = .ok (.anewarray 9, 3) := by decide +kernel
theorem dX8_init_10 : decode cX8_init 10 = .ok (.putfield 11, 3) := by decide +kernel
theorem dX8_init_13 : decode cX8_init 13 = .ok (.aload_n 0, 1) := by decide +kernel
theorem dX8_init_14 : decode cX8_init 14 = .ok (.iconst 4, 1) := by decide +kernel
theorem dX8_init_15 : decode cX8_init 15 = .ok (.anewarray 15, 3) := by decide +kernel
