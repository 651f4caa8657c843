theorem dX8_markBeyond_9 : decode cX8_markBeyond 9 = .ok (.ireturn, 1) := by decide +kernel
theorem dX8_mapAnswer_0 : decode cX8_mapAnswer 0 = .ok (.iload_n 1, 1) := by decide +kernel
theorem dX8_mapAnswer_1 : decode cX8_mapAnswer 1 = .ok (.ifCond .lt 17, 3) := by decide +kernel
theorem dX8_mapAnswer_4 : decode cX8_mapAnswer 4 = .ok (.iload_n 1, 1) := by decide +kernel
theorem dX8_mapAnswer_5 : decode cX8_mapAnswer 5 = .ok (.bipush 6, 2) := by decide +kernel
theorem dX8_mapAnswer_7 : decode cX8_mapAnswer 7 = .ok (.if_icmp .ge 11, 3) := by decide +kernel
theorem dX8_mapAnswer_10 : decode cX8_mapAnswer 10 = .ok (.aload_n 0, 1) := by decide +kernel
theorem dX8_mapAnswer_11 : decode cX8_mapAnswer 11 = .ok (.iload_n 1, 1) := by decide +kernel
theorem dX8_mapAnswer_12 : decode cX8_mapAnswer 12 = .ok (.invokevirtual 79, 3) := by decide +kernel
theorem dX8_mapAnswer_15 : decode cX8_mapAnswer 15 = .ok (.goto 5, 3) := by decide +kernel
theorem dX8_mapAnswer_18 : decode cX8_mapAnswer 18 = .ok (.bipush (-2), 2) := by decide +kernel
theorem dX8_mapAnswer_20 : decode cX8_mapAnswer 20 = .ok (.ireturn, 1) := by decide +kernel
theorem dX8_restart_0 : decode cX8_restart 0 = .ok (.aload_n 0, 1) := by decide +kernel
theorem dX8_restart_1 : decode cX8_restart 1 = .ok (.iload_n 1, 1) := by decide +kernel
theorem dX8_restart_2 : decode cX8_restart 2 = .ok (.putfield 65, 3) := by decide +kernel
theorem dX8_restart_5 : decode cX8_restart 5 = .ok (.aload_n 0, 1) := by decide +kernel
theorem dX8_restart_6 : decode cX8_restart 6 = .ok (.iconst 0, 1) := by decide +kernel
theorem dX8_restart_7 : decode cX8_restart 7 = .ok (.putfield 235, 3) := by decide +kernel
theorem dX8_restart_10 : decode cX8_restart 10 = .ok (.aload_n 0, 1) := by decide +kernel
theorem dX8_restart_11 : decode cX8_restart 11 = .ok (.getfield 11, 3) := by decide +kernel
theorem dX8_restart_14 : decode cX8_restart 14 = .ok (.astore_n 3, 1) := by decide +kernel
theorem dX8_restart_15 : decode cX8_restart 15 = .ok (.aload_n 3, 1) := by decide +kernel
theorem dX8_restart_16 : decode cX8_restart 16 = .ok (.arraylength, 1) := by decide +kernel
theorem dX8_restart_17 : decode cX8_restart 17 = .ok (.istore 4, 2) := by decide +kernel
theorem dX8_restart_19 : decode cX8_restart 19 = .ok (.iconst 0, 1) := by decide +kernel
theorem dX8_restart_20 : decode cX8_restart 20 = .ok (.istore 5, 2) := by decide +kernel
theorem dX8_restart_22 : decode cX8_restart 22 = .ok (.iload 5, 2) := by decide +kernel
theorem dX8_restart_24 : decode cX8_restart 24 = .ok (.iload 4, 2) := by decide +kernel
theorem dX8_restart_26 : decode cX8_restart 26 = .ok (.if_icmp .ge 21, 3) := by decide +kernel
theorem dX8_restart_29 : decode cX8_restart 29 = .ok (.aload_n 3, 1) := by decide +kernel
theorem dX8_restart_30 : decode cX8_restart 30 = .ok (.iload 5, 2) := by decide +kernel
theorem dX8_restart_32 : decode cX8_restart 32 = .ok (.aaload, 1) := by decide +kernel
theorem dX8_restart_33 : decode cX8_restart 33 = .ok (.astore 6, 2) := by decide +kernel
theorem dX8_restart_35 : decode cX8_restart 35 = .ok (.aload 6, 2) := by decide +kernel
theorem dX8_restart_37 : decode cX8_restart 37 = .ok (.iload_n 2, 1) := by decide +kernel
theorem dX8_restart_38 : decode cX8_restart 38 = .ok (.invokevirtual 250, 3) := by decide +kernel
theorem dX8_restart_41 : decode cX8_restart 41 = .ok (.iinc 5 1, 3) := by decide +kernel
theorem dX8_restart_44 : decode cX8_restart 44 = .ok (.goto (-22), 3) := by decide +kernel
theorem dX8_restart_47 : decode cX8_restart 47 = .ok (.aload_n 0, 1) := by decide +kernel
theorem dX8_restart_48 : decode cX8_restart 48 = .ok (.getfield 17, 3) := by decide +kernel
theorem dX8_restart_51 : decode cX8_restart 51 = .ok (.astore_n 3, 1) := by decide +kernel
theorem dX8_restart_52 : decode cX8_restart 52 = .ok (.aload_n 3, 1) := by decide +kernel
theorem dX8_restart_53 : decode cX8_restart 53 = .ok (.arraylength, 1) := by decide +kernel
theorem dX8_restart_54 : decode cX8_restart 54 = .ok (.istore 4, 2) := by decide +kernel
theorem dX8_restart_56 : decode cX8_restart 56 = .ok (.iconst 0, 1) := by decide +kernel
theorem dX8_restart_57 : decode cX8_restart 57 = .ok (.istore 5, 2) := by decide +kernel
theorem dX8_restart_59 : decode cX8_restart 59 = .ok (.iload 5, 2) := by decide +kernel
theorem dX8_restart_61 : decode cX8_restart 61 = .ok (.iload 4, 2) := by decide +kernel
theorem dX8_restart_63 : decode cX8_restart 63 = .ok (.if_icmp .ge 21, 3) := by decide +kernel
theorem dX8_restart_66 : decode cX8_restart 66 = .ok (.aload_n 3, 1) := by decide +kernel
theorem dX8_restart_67 : decode cX8_restart 67 = .ok (.iload 5, 2) := by decide +kernel
theorem dX8_restart_69 : decode cX8_restart 69 = .ok (.aaload, 1) := by decide +kernel
theorem dX8_restart_70 : decode cX8_restart 70 = .ok (.astore 6, 2) := by decide +kernel
theorem dX8_restart_72 : decode cX8_restart 72 = .ok (.aload 6, 2) := by decide +kernel
theorem dX8_restart_74 : decode cX8_restart 74 = .ok (.iload_n 2, 1) := by decide +kernel
theorem dX8_restart_75 : decode cX8_restart 75 = .ok (.invokevirtual 252, 3) := by decide +kernel
theorem dX8_restart_78 : decode cX8_restart 78 = .ok (.iinc 5 1, 3) := by decide +kernel
theorem dX8_restart_81 : decode cX8_restart 81 = .ok (.goto (-22), 3) := by decide +kernel
theorem dX8_restart_84 : decode cX8_restart 84 = .ok (.aload_n 0, 1) := by decide +kernel
theorem dX8_restart_85 : decode cX8_restart 85 = .ok (.getfield 24, 3) := by decide +kernel
theorem dX8_restart_88 : decode cX8_restart 88 = .ok (.invokevirtual 253, 3) := by decide +kernel
theorem dX8_restart_91 : decode cX8_restart 91 = .ok (.aload_n 0, 1) := by decide +kernel
theorem dX8_restart_92 : decode cX8_restart 92 = .ok (.getfield 31, 3) := by decide +kernel
theorem dX8_restart_95 : decode cX8_restart 95 = .ok (.invokevirtual 255, 3) := by decide +kernel
theorem dX8_restart_98 : decode cX8_restart 98 = .ok (.return_, 1) := by decide +kernel
theorem dX8_canBegin_0 : decode cX8_canBegin 0 = .ok (.iload_n 1, 1) := by decide +kernel
theorem dX8_canBegin_1 : decode cX8_canBegin 1 = .ok (.invokestatic 147, 3) := by decide +kernel
theorem dX8_canBegin_4 : decode cX8_canBegin 4 = .ok (.ifCond .eq 41, 3) := by decide +kernel
theorem dX8_canBegin_7 : decode cX8_canBegin 7 = .ok (.aload_n 0, 1) := by decide +kernel
theorem dX8_canBegin_8 : decode cX8_canBegin 8 = .ok (.getfield 17, 3) := by decide +kernel
theorem dX8_canBegin_11 : decode cX8_canBegin 11 = .ok (.iload_n 1, 1) := by decide +kernel
theorem dX8_canBegin_12 : decode cX8_canBegin 12 = .ok (.aaload, 1) := by decide +kernel
theorem dX8_canBegin_13 : decode cX8_canBegin 13 = .ok (.getfield 150, 3) := by decide +kernel
theorem dX8_canBegin_16 : decode cX8_canBegin 16 = .ok (.ifCond .ne 29, 3) := by decide +kernel
theorem dX8_canBegin_19 : decode cX8_canBegin 19 = .ok (.aload_n 0, 1) := by decide +kernel
theorem dX8_canBegin_20 : decode cX8_canBegin 20 = .ok (.getfield 17, 3) := by decide +kernel
theorem dX8_canBegin_23 : decode cX8_canBegin 23 = .ok (.iload_n 1, 1) := by decide +kernel
theorem dX8_canBegin_24 : decode cX8_canBegin 24 = .ok (.aaload, 1) := by decide +kernel
theorem dX8_canBegin_25 : decode cX8_canBegin 25 = .ok (.getfield 173, 3) := by decide +kernel
theorem dX8_canBegin_28 : decode cX8_canBegin 28 = .ok (.ifnonnull 17, 3) := by decide +kernel
theorem dX8_canBegin_31 : decode cX8_canBegin 31 = .ok (.aload_n 0, 1) := by decide +kernel
theorem dX8_canBegin_32 : decode cX8_canBegin 32 = .ok (.getfield 31, 3) := by decide +kernel
theorem dX8_canBegin_35 : decode cX8_canBegin 35 = .ok (.invokevirtual 256, 3) := by decide +kernel
theorem dX8_canBegin_38 : decode cX8_canBegin 38 = .ok (.ifCond .eq 7, 3) := by decide +kernel
theorem dX8_canBegin_41 : decode cX8_canBegin 41 = .ok (.iconst 1, 1) := by decide +kernel
theorem dX8_canBegin_42 : decode cX8_canBegin 42 = .ok (.goto 4, 3) := by decide +kernel
theorem dX8_canBegin_45 : decode cX8_canBegin 45 = .ok (.iconst 0, 1) := by decide +kernel
theorem dX8_canBegin_46 : decode cX8_canBegin 46 = .ok (.ireturn, 1) := by decide +kernel
theorem dX8_start_0 : decode cX8_start 0 = .ok (.aload_n 0, 1) := by decide +kernel
theorem dX8_start_1 : decode cX8_start 1 = .ok (.getfield 31, 3) := by decide +kernel
theorem dX8_start_4 : decode cX8_start 4 = .ok (.iload_n 2, 1) := by decide +kernel
theorem dX8_start_5 : decode cX8_start 5 = .ok (.aload_n 1, 1) := by decide +kernel
theorem dX8_start_6 : decode cX8_start 6 = .ok (.getfield 259, 3) := by decide +kernel
theorem dX8_start_9 : decode cX8_start 9 = .ok (.iload_n 3, 1) := by decide +kernel
theorem dX8_start_10 : decode cX8_start 10 = .ok (.iload 4, 2) := by decide +kernel
theorem dX8_start_12 : decode cX8_start 12 = .ok (.invokevirtual 262, 3) := by decide +kernel
theorem dX8_start_15 : decode cX8_start 15 = .ok (.astore 5, 2) := by decide +kernel
theorem dX8_start_17 : decode cX8_start 17 = .ok (.aload_n 1, 1) := by decide +kernel
theorem dX8_start_18 : decode cX8_start 18 = .ok (.aload 5, 2) := by decide +kernel
theorem dX8_start_20 : decode cX8_start 20 = .ok (.invokevirtual 266, 3) := by decide +kernel
theorem dX8_start_23 : decode cX8_start 23 = .ok (.aload_n 0, 1) := by decide +kernel
theorem dX8_start_24 : decode cX8_start 24 = .ok (.aload_n 1, 1) := by decide +kernel
theorem dX8_start_25 : decode cX8_start 25 = .ok (.aload 5, 2) := by decide +kernel
theorem dX8_start_27 : decode cX8_start 27 = .ok (.invokevirtual 270, 3) := by decide +kernel
theorem dX8_start_30 : decode cX8_start 30 = .ok (.aload 5, 2) := by decide +kernel
theorem dX8_start_32 : decode cX8_start 32 = .ok (.getfield 177, 3) := by decide +kernel
theorem dX8_start_35 : decode cX8_start 35 = .ok (.ireturn, 1) := by decide +kernel
theorem dX8_handOver_0 : decode cX8_handOver 0 = .ok (.aload_n 0, 1) := by decide +kernel
theorem dX8_handOver_1 : decode cX8_handOver 1 = .ok (.getfield 24, 3) := by decide +kernel
theorem dX8_handOver_4 : decode cX8_handOver 4 = .ok (.iload_n 1, 1) := by decide +kernel
theorem dX8_handOver_5 : decode cX8_handOver 5 = .ok (.invokevirtual 139, 3) := by decide +kernel
theorem dX8_handOver_8 : decode cX8_handOver 8 = .ok (.astore_n 2, 1) := by decide +kernel
theorem dX8_handOver_9 : decode cX8_handOver 9 = .ok (.aload_n 2, 1) := by decide +kernel
theorem dX8_handOver_10 : decode cX8_handOver 10 = .ok (.getfield 103, 3) := by decide +kernel
theorem dX8_handOver_13 : decode cX8_handOver 13 = .ok (.bipush 10, 2) := by decide +kernel
theorem dX8_handOver_15 : decode cX8_handOver 15 = .ok (.if_icmp .lt 42, 3) := by decide +kernel
theorem dX8_handOver_18 : decode cX8_handOver 18 = .ok (.aload_n 0, 1) := by decide +kernel
theorem dX8_handOver_19 : decode cX8_handOver 19 = .ok (.getfield 17, 3) := by decide +kernel
theorem dX8_handOver_22 : decode cX8_handOver 22 = .ok (.aload_n 2, 1) := by decide +kernel
theorem dX8_handOver_23 : decode cX8_handOver 23 = .ok (.getfield 111, 3) := by decide +kernel
theorem dX8_handOver_26 : decode cX8_handOver 26 = .ok (.aaload, 1) := by decide +kernel
theorem dX8_handOver_27 : decode cX8_handOver 27 = .ok (.astore 4, 2) := by decide +kernel
theorem dX8_handOver_29 : decode cX8_handOver 29 = .ok (.aload 4, 2) := by decide +kernel
theorem dX8_handOver_31 : decode cX8_handOver 31 = .ok (.getfield 150, 3) := by decide +kernel
theorem dX8_handOver_34 : decode cX8_handOver 34 = .ok (.ifCond .ne 7, 3) := by decide +kernel
theorem dX8_handOver_37 : decode cX8_handOver 37 = .ok (.iconst 1, 1) := by decide +kernel
theorem dX8_handOver_38 : decode cX8_handOver 38 = .ok (.goto 4, 3) := by decide +kernel
theorem dX8_handOver_41 : decode cX8_handOver 41 = .ok (.iconst 0, 1) := by decide +kernel
theorem dX8_handOver_42 : decode cX8_handOver 42 = .ok (.istore_n 3, 1) := by decide +kernel
theorem dX8_handOver_43 : decode cX8_handOver 43 = .ok (.iload_n 3, 1) := by decide +kernel
theorem dX8_handOver_44 : decode cX8_handOver 44 = .ok (.ifCond .eq 10, 3) := by decide +kernel
theorem dX8_handOver_47 : decode cX8_handOver 47 = .ok (.aload_n 0, 1) := by decide +kernel
theorem dX8_handOver_48 : decode cX8_handOver 48 = .ok (.aload 4, 2) := by decide +kernel
theorem dX8_handOver_50 : decode cX8_handOver 50 = .ok (.aload_n 2, 1) := by decide +kernel
theorem dX8_handOver_51 : decode cX8_handOver 51 = .ok (.invokevirtual 274, 3) := by decide +kernel
theorem dX8_handOver_54 : decode cX8_handOver 54 = .ok (.goto 39, 3) := by decide +kernel
theorem dX8_handOver_57 : decode cX8_handOver 57 = .ok (.aload_n 0, 1) := by decide +kernel
theorem dX8_handOver_58 : decode cX8_handOver 58 = .ok (.getfield 11, 3) := by decide +kernel
theorem dX8_handOver_61 : decode cX8_handOver 61 = .ok (.aload_n 2, 1) := by decide +kernel
theorem dX8_handOver_62 : decode cX8_handOver 62 = .ok (.getfield 108, 3) := by decide +kernel
theorem dX8_handOver_65 : decode cX8_handOver 65 = .ok (.aaload, 1) := by decide +kernel
theorem dX8_handOver_66 : decode cX8_handOver 66 = .ok (.astore 4, 2) := by decide +kernel
theorem dX8_handOver_68 : decode cX8_handOver 68 = .ok (.aload 4, 2) := by decide +kernel
theorem dX8_handOver_70 : decode cX8_handOver 70 = .ok (.getfield 156, 3) := by decide +kernel
theorem dX8_handOver_73 : decode cX8_handOver 73 = .ok (.ifCond .ne 7, 3) := by decide +kernel
theorem dX8_handOver_76 : decode cX8_handOver 76 = .ok (.iconst 1, 1) := by decide +kernel
theorem dX8_handOver_77 : decode cX8_handOver 77 = .ok (.goto 4, 3) := by decide +kernel
theorem dX8_handOver_80 : decode cX8_handOver 80 = .ok (.iconst 0, 1) := by decide +kernel
theorem dX8_handOver_81 : decode cX8_handOver 81 = .ok (.istore_n 3, 1) := by decide +kernel
theorem dX8_handOver_82 : decode cX8_handOver 82 = .ok (.iload_n 3, 1) := by decide +kernel
theorem dX8_handOver_83 : decode cX8_handOver 83 = .ok (.ifCond .eq 10, 3) := by decide +kernel
theorem dX8_handOver_86 : decode cX8_handOver 86 = .ok (.aload_n 0, 1) := by decide +kernel
theorem dX8_handOver_87 : decode cX8_handOver 87 = .ok (.aload 4, 2) := by decide +kernel
theorem dX8_handOver_89 : decode cX8_handOver 89 = .ok (.aload_n 2, 1) := by decide +kernel
theorem dX8_handOver_90 : decode cX8_handOver 90 = .ok (.invokevirtual 278, 3) := by decide +kernel
theorem dX8_handOver_93 : decode cX8_handOver 93 = .ok (.iload_n 3, 1) := by decide +kernel
theorem dX8_handOver_94 : decode cX8_handOver 94 = .ok (.ifCond .eq 13, 3) := by decide +kernel
theorem dX8_handOver_97 : decode cX8_handOver 97 = .ok (.aload_n 0, 1) := by decide +kernel
theorem dX8_handOver_98 : decode cX8_handOver 98 = .ok (.dup, 1) := by decide +kernel
theorem dX8_handOver_99 : decode cX8_handOver 99 = .ok (.getfield 235, 3) := by decide +kernel
theorem dX8_handOver_102 : decode cX8_handOver 102 = .ok (.iconst 1, 1) := by decide +kernel
theorem dX8_handOver_103 : decode cX8_handOver 103 = .ok (.iadd, 1) := by decide +kernel
theorem dX8_handOver_104 : decode cX8_handOver 104 = .ok (.putfield 235, 3) := by decide +kernel
theorem dX8_handOver_107 : decode cX8_handOver 107 = .ok (.aload_n 0, 1) := by decide +kernel
theorem dX8_handOver_108 : decode cX8_handOver 108 = .ok (.getfield 24, 3) := by decide +kernel
theorem dX8_handOver_111 : decode cX8_handOver 111 = .ok (.aload_n 2, 1) := by decide +kernel
theorem dX8_handOver_112 : decode cX8_handOver 112 = .ok (.invokevirtual 142, 3) := by decide +kernel
theorem dX8_handOver_115 : decode cX8_handOver 115 = .ok (.iload_n 3, 1) := by decide +kernel
theorem dX8_handOver_116 : decode cX8_handOver 116 = .ok (.ireturn, 1) := by decide +kernel
theorem dX8_serve_0 : decode cX8_serve 0 = .ok (.aload_n 1, 1) := by decide +kernel
theorem dX8_serve_1 : decode cX8_serve 1 = .ok (.getfield 157, 3) := by decide +kernel
theorem dX8_serve_4 : decode cX8_serve 4 = .ok (.aload_n 2, 1) := by decide +kernel
theorem dX8_serve_5 : decode cX8_serve 5 = .ok (.getfield 131, 3) := by decide +kernel
theorem dX8_serve_8 : decode cX8_serve 8 = .ok (.invokevirtual 282, 3) := by decide +kernel
theorem dX8_serve_11 : decode cX8_serve 11 = .ok (.aload_n 2, 1) := by decide +kernel
theorem dX8_serve_12 : decode cX8_serve 12 = .ok (.getfield 103, 3) := by decide +kernel
theorem dX8_serve_15 : decode cX8_serve 15 = .ok (.bipush 6, 2) := by decide +kernel
theorem dX8_serve_17 : decode cX8_serve 17 = .ok (.if_icmp .ne 4, 3) := by decide +kernel
theorem dX8_serve_20 : decode cX8_serve 20 = .ok (.return_, 1) := by decide +kernel
theorem dX8_serve_21 : decode cX8_serve 21 = .ok (.aload_n 0, 1) := by decide +kernel
theorem dX8_serve_22 : decode cX8_serve 22 = .ok (.getfield 24, 3) := by decide +kernel
theorem dX8_serve_25 : decode cX8_serve 25 = .ok (.aload_n 2, 1) := by decide +kernel
theorem dX8_serve_26 : decode cX8_serve 26 = .ok (.getfield 103, 3) := by decide +kernel
theorem dX8_serve_29 : decode cX8_serve 29 = .ok (.bipush 10, 2) := by decide +kernel
theorem dX8_serve_31 : decode cX8_serve 31 = .ok (.iadd, 1) := by decide +kernel
theorem dX8_serve_32 : decode cX8_serve 32 = .ok (.aload_n 2, 1) := by decide +kernel
theorem dX8_serve_33 : decode cX8_serve 33 = .ok (.getfield 108, 3) := by decide +kernel
theorem dX8_serve_36 : decode cX8_serve 36 = .ok (.aload_n 2, 1) := by decide +kernel
theorem dX8_serve_37 : decode cX8_serve 37 = .ok (.getfield 111, 3) := by decide +kernel
theorem dX8_serve_40 : decode cX8_serve 40 = .ok (.aload_n 1, 1) := by decide +kernel
theorem dX8_serve_41 : decode cX8_serve 41 = .ok (.getfield 157, 3) := by decide +kernel
theorem dX8_serve_44 : decode cX8_serve 44 = .ok (.invokevirtual 286, 3) := by decide +kernel
theorem dX8_serve_47 : decode cX8_serve 47 = .ok (.astore_n 3, 1) := by decide +kernel
theorem dX8_serve_48 : decode cX8_serve 48 = .ok (.aload_n 3, 1) := by decide +kernel
theorem dX8_serve_49 : decode cX8_serve 49 = .ok (.aload_n 2, 1) := by decide +kernel
theorem dX8_serve_50 : decode cX8_serve 50 = .ok (.getfield 114, 3) := by decide +kernel
theorem dX8_serve_53 : decode cX8_serve 53 = .ok (.putfield 114, 3) := by decide +kernel
theorem dX8_serve_56 : decode cX8_serve 56 = .ok (.aload_n 3, 1) := by decide +kernel
theorem dX8_serve_57 : decode cX8_serve 57 = .ok (.aload_n 2, 1) := by decide +kernel
theorem dX8_serve_58 : decode cX8_serve 58 = .ok (.getfield 117, 3) := by decide +kernel
theorem dX8_serve_61 : decode cX8_serve 61 = .ok (.putfield 117, 3) := by decide +kernel
theorem dX8_serve_64 : decode cX8_serve 64 = .ok (.aload_n 1, 1) := by decide +kernel
theorem dX8_serve_65 : decode cX8_serve 65 = .ok (.aload_n 2, 1) := by decide +kernel
theorem dX8_serve_66 : decode cX8_serve 66 = .ok (.aload_n 3, 1) := by decide +kernel
theorem dX8_serve_67 : decode cX8_serve 67 = .ok (.invokevirtual 290, 3) := by decide +kernel
theorem dX8_serve_70 : decode cX8_serve 70 = .ok (.return_, 1) := by decide +kernel
theorem dX8_hear_0 : decode cX8_hear 0 = .ok (.aload_n 1, 1) := by decide +kernel
theorem dX8_hear_1 : decode cX8_hear 1 = .ok (.getfield 69, 3) := by decide +kernel
theorem dX8_hear_4 : decode cX8_hear 4 = .ok (.aload_n 2, 1) := by decide +kernel
theorem dX8_hear_5 : decode cX8_hear 5 = .ok (.getfield 131, 3) := by decide +kernel
theorem dX8_hear_8 : decode cX8_hear 8 = .ok (.invokevirtual 282, 3) := by decide +kernel
theorem dX8_hear_11 : decode cX8_hear 11 = .ok (.aload_n 1, 1) := by decide +kernel
theorem dX8_hear_12 : decode cX8_hear 12 = .ok (.getfield 173, 3) := by decide +kernel
theorem dX8_hear_15 : decode cX8_hear 15 = .ok (.astore_n 3, 1) := by decide +kernel
theorem dX8_hear_16 : decode cX8_hear 16 = .ok (.aload_n 3, 1) := by decide +kernel
theorem dX8_hear_17 : decode cX8_hear 17 = .ok (.ifnonnull 4, 3) := by decide +kernel
theorem dX8_hear_20 : decode cX8_hear 20 = .ok (.return_, 1) := by decide +kernel
theorem dX8_hear_21 : decode cX8_hear 21 = .ok (.aload_n 2, 1) := by decide +kernel
theorem dX8_hear_22 : decode cX8_hear 22 = .ok (.getfield 114, 3) := by decide +kernel
theorem dX8_hear_25 : decode cX8_hear 25 = .ok (.aload_n 1, 1) := by decide +kernel
theorem dX8_hear_26 : decode cX8_hear 26 = .ok (.getfield 182, 3) := by decide +kernel
theorem dX8_hear_29 : decode cX8_hear 29 = .ok (.if_icmp .ne 7, 3) := by decide +kernel
theorem dX8_hear_32 : decode cX8_hear 32 = .ok (.iconst 1, 1) := by decide +kernel
theorem dX8_hear_33 : decode cX8_hear 33 = .ok (.goto 4, 3) := by decide +kernel
theorem dX8_hear_36 : decode cX8_hear 36 = .ok (.iconst 0, 1) := by decide +kernel
theorem dX8_hear_37 : decode cX8_hear 37 = .ok (.istore 4, 2) := by decide +kernel
theorem dX8_hear_39 : decode cX8_hear 39 = .ok (.iload 4, 2) := by decide +kernel
theorem dX8_hear_41 : decode cX8_hear 41 = .ok (.ifCond .eq 15, 3) := by decide +kernel
theorem dX8_hear_44 : decode cX8_hear 44 = .ok (.aload_n 2, 1) := by decide +kernel
theorem dX8_hear_45 : decode cX8_hear 45 = .ok (.getfield 127, 3) := by decide +kernel
theorem dX8_hear_48 : decode cX8_hear 48 = .ok (.ifCond .ne 8, 3) := by decide +kernel
theorem dX8_hear_51 : decode cX8_hear 51 = .ok (.aload_n 1, 1) := by decide +kernel
theorem dX8_hear_52 : decode cX8_hear 52 = .ok (.aload_n 2, 1) := by decide +kernel
theorem dX8_hear_53 : decode cX8_hear 53 = .ok (.invokevirtual 294, 3) := by decide +kernel
theorem dX8_hear_56 : decode cX8_hear 56 = .ok (.aload_n 1, 1) := by decide +kernel
theorem dX8_hear_57 : decode cX8_hear 57 = .ok (.aload_n 3, 1) := by decide +kernel
theorem dX8_hear_58 : decode cX8_hear 58 = .ok (.invokevirtual 297, 3) := by decide +kernel
theorem dX8_hear_61 : decode cX8_hear 61 = .ok (.ifCond .eq 15, 3) := by decide +kernel
theorem dX8_hear_64 : decode cX8_hear 64 = .ok (.aload_n 0, 1) := by decide +kernel
theorem dX8_hear_65 : decode cX8_hear 65 = .ok (.aload_n 1, 1) := by decide +kernel
theorem dX8_hear_66 : decode cX8_hear 66 = .ok (.aload_n 3, 1) := by decide +kernel
theorem dX8_hear_67 : decode cX8_hear 67 = .ok (.aload_n 1, 1) := by decide +kernel
theorem dX8_hear_68 : decode cX8_hear 68 = .ok (.aload_n 3, 1) := by decide +kernel
theorem dX8_hear_69 : decode cX8_hear 69 = .ok (.invokevirtual 301, 3) := by decide +kernel
theorem dX8_hear_72 : decode cX8_hear 72 = .ok (.invokevirtual 304, 3) := by decide +kernel
theorem dX8_hear_75 : decode cX8_hear 75 = .ok (.return_, 1) := by decide +kernel
theorem dX8_hear_76 : decode cX8_hear 76 = .ok (.iload 4, 2) := by decide +kernel
theorem dX8_hear_78 : decode cX8_hear 78 = .ok (.ifCond .eq 32, 3) := by decide +kernel
theorem dX8_hear_81 : decode cX8_hear 81 = .ok (.aload_n 2, 1) := by decide +kernel
theorem dX8_hear_82 : decode cX8_hear 82 = .ok (.getfield 127, 3) := by decide +kernel
theorem dX8_hear_85 : decode cX8_hear 85 = .ok (.ifCond .eq 25, 3) := by decide +kernel
theorem dX8_hear_88 : decode cX8_hear 88 = .ok (.aload_n 1, 1) := by decide +kernel
theorem dX8_hear_89 : decode cX8_hear 89 = .ok (.aload_n 3, 1) := by decide +kernel
theorem dX8_hear_90 : decode cX8_hear 90 = .ok (.aload_n 2, 1) := by decide +kernel
theorem dX8_hear_91 : decode cX8_hear 91 = .ok (.getfield 120, 3) := by decide +kernel
theorem dX8_hear_94 : decode cX8_hear 94 = .ok (.iconst 0, 1) := by decide +kernel
theorem dX8_hear_95 : decode cX8_hear 95 = .ok (.iaload, 1) := by decide +kernel
theorem dX8_hear_96 : decode cX8_hear 96 = .ok (.invokestatic 308, 3) := by decide +kernel
theorem dX8_hear_99 : decode cX8_hear 99 = .ok (.ifCond .ne 11, 3) := by decide +kernel
theorem dX8_hear_102 : decode cX8_hear 102 = .ok (.aload_n 0, 1) := by decide +kernel
theorem dX8_hear_103 : decode cX8_hear 103 = .ok (.aload_n 1, 1) := by decide +kernel
theorem dX8_hear_104 : decode cX8_hear 104 = .ok (.aload_n 3, 1) := by decide +kernel
theorem dX8_hear_105 : decode cX8_hear 105 = .ok (.iconst 0, 1) := by decide +kernel
theorem dX8_hear_106 : decode cX8_hear 106 = .ok (.invokevirtual 304, 3) := by decide +kernel
theorem dX8_hear_109 : decode cX8_hear 109 = .ok (.return_, 1) := by decide +kernel
theorem dX8_hear_110 : decode cX8_hear 110 = .ok (.aload_n 0, 1) := by decide +kernel
theorem dX8_hear_111 : decode cX8_hear 111 = .ok (.aload_n 1, 1) := by decide +kernel
theorem dX8_hear_112 : decode cX8_hear 112 = .ok (.aload_n 3, 1) := by decide +kernel
theorem dX8_hear_113 : decode cX8_hear 113 = .ok (.invokevirtual 270, 3) := by decide +kernel
theorem dX8_hear_116 : decode cX8_hear 116 = .ok (.aload_n 1, 1) := by decide +kernel
theorem dX8_hear_117 : decode cX8_hear 117 = .ok (.aload_n 3, 1) := by decide +kernel
theorem dX8_hear_118 : decode cX8_hear 118 = .ok (.invokevirtual 312, 3) := by decide +kernel
theorem dX8_hear_121 : decode cX8_hear 121 = .ok (.ifCond .ne 4, 3) := by decide +kernel
theorem dX8_hear_124 : decode cX8_hear 124 = .ok (.return_, 1) := by decide +kernel
theorem dX8_hear_125 : decode cX8_hear 125 = .ok (.aload_n 1, 1) := by decide +kernel
theorem dX8_hear_126 : decode cX8_hear 126 = .ok (.getfield 189, 3) := by decide +kernel
theorem dX8_hear_129 : decode cX8_hear 129 = .ok (.iconst 1, 1) := by decide +kernel
theorem dX8_hear_130 : decode cX8_hear 130 = .ok (.if_icmp .ne 17, 3) := by decide +kernel
theorem dX8_hear_133 : decode cX8_hear 133 = .ok (.aload_n 1, 1) := by decide +kernel
theorem dX8_hear_134 : decode cX8_hear 134 = .ok (.aload_n 3, 1) := by decide +kernel
theorem dX8_hear_135 : decode cX8_hear 135 = .ok (.invokevirtual 315, 3) := by decide +kernel
theorem dX8_hear_138 : decode cX8_hear 138 = .ok (.aload_n 0, 1) := by decide +kernel
theorem dX8_hear_139 : decode cX8_hear 139 = .ok (.aload_n 1, 1) := by decide +kernel
theorem dX8_hear_140 : decode cX8_hear 140 = .ok (.aload_n 3, 1) := by decide +kernel
theorem dX8_hear_141 : decode cX8_hear 141 = .ok (.invokevirtual 270, 3) := by decide +kernel
theorem dX8_hear_144 : decode cX8_hear 144 = .ok (.goto 9, 3) := by decide +kernel
theorem dX8_hear_147 : decode cX8_hear 147 = .ok (.aload_n 0, 1) := by decide +kernel
theorem dX8_hear_148 : decode cX8_hear 148 = .ok (.aload_n 1, 1) := by decide +kernel
theorem dX8_hear_149 : decode cX8_hear 149 = .ok (.aload_n 3, 1) := by decide +kernel
theorem dX8_hear_150 : decode cX8_hear 150 = .ok (.invokevirtual 318, 3) := by decide +kernel
theorem dX8_hear_153 : decode cX8_hear 153 = .ok (.return_, 1) := by decide +kernel
theorem dX8_tryAgain_0 : decode cX8_tryAgain 0 = .ok (.aload_n 1, 1) := by decide +kernel
theorem dX8_tryAgain_1 : decode cX8_tryAgain 1 = .ok (.dup, 1) := by decide +kernel
theorem dX8_tryAgain_2 : decode cX8_tryAgain 2 = .ok (.getfield 220, 3) := by decide +kernel
theorem dX8_tryAgain_5 : decode cX8_tryAgain 5 = .ok (.iconst 1, 1) := by decide +kernel
theorem dX8_tryAgain_6 : decode cX8_tryAgain 6 = .ok (.iadd, 1) := by decide +kernel
theorem dX8_tryAgain_7 : decode cX8_tryAgain 7 = .ok (.putfield 220, 3) := by decide +kernel
theorem dX8_tryAgain_10 : decode cX8_tryAgain 10 = .ok (.aload_n 1, 1) := by decide +kernel
theorem dX8_tryAgain_11 : decode cX8_tryAgain 11 = .ok (.getfield 220, 3) := by decide +kernel
theorem dX8_tryAgain_14 : decode cX8_tryAgain 14 = .ok (.bipush 9, 2) := by decide +kernel
theorem dX8_tryAgain_16 : decode cX8_tryAgain 16 = .ok (.if_icmp .lt 5, 3) := by decide +kernel
theorem dX8_tryAgain_19 : decode cX8_tryAgain 19 = .ok (.iconst 0, 1) := by decide +kernel
theorem dX8_tryAgain_20 : decode cX8_tryAgain 20 = .ok (.ireturn, 1) := by decide +kernel
theorem dX8_tryAgain_21 : decode cX8_tryAgain 21 = .ok (.aload_n 0, 1) := by decide +kernel
theorem dX8_tryAgain_22 : decode cX8_tryAgain 22 = .ok (.iload_n 2, 1) := by decide +kernel
theorem dX8_tryAgain_23 : decode cX8_tryAgain 23 = .ok (.aload_n 0, 1) := by decide +kernel
theorem dX8_tryAgain_24 : decode cX8_tryAgain 24 = .ok (.getfield 259, 3) := by decide +kernel
theorem dX8_tryAgain_27 : decode cX8_tryAgain 27 = .ok (.invokestatic 321, 3) := by decide +kernel
theorem dX8_tryAgain_30 : decode cX8_tryAgain 30 = .ok (.putfield 325, 3) := by decide +kernel
theorem dX8_tryAgain_33 : decode cX8_tryAgain 33 = .ok (.aload_n 0, 1) := by decide +kernel
theorem dX8_tryAgain_34 : decode cX8_tryAgain 34 = .ok (.invokevirtual 328, 3) := by decide +kernel
theorem dX8_tryAgain_37 : decode cX8_tryAgain 37 = .ok (.iconst 1, 1) := by decide +kernel
theorem dX8_tryAgain_38 : decode cX8_tryAgain 38 = .ok (.ireturn, 1) := by decide +kernel
theorem dX8_askMissing_0 : decode cX8_askMissing 0 = .ok (.aload_n 1, 1) := by decide +kernel
theorem dX8_askMissing_1 : decode cX8_askMissing 1 = .ok (.aload_n 2, 1) := by decide +kernel
theorem dX8_askMissing_2 : decode cX8_askMissing 2 = .ok (.invokevirtual 331, 3) := by decide +kernel
theorem dX8_askMissing_5 : decode cX8_askMissing 5 = .ok (.aload_n 1, 1) := by decide +kernel
theorem dX8_askMissing_6 : decode cX8_askMissing 6 = .ok (.getfield 183, 3) := by decide +kernel
theorem dX8_askMissing_9 : decode cX8_askMissing 9 = .ok (.iconst (-1), 1) := by decide +kernel
theorem dX8_askMissing_10 : decode cX8_askMissing 10 = .ok (.ixor, 1) := by decide +kernel
theorem dX8_askMissing_11 : decode cX8_askMissing 11 = .ok (.iand, 1) := by decide +kernel
theorem dX8_askMissing_12 : decode cX8_askMissing 12 = .ok (.istore_n 3, 1) := by decide +kernel
theorem dX8_askMissing_13 : decode cX8_askMissing 13 = .ok (.iconst 0, 1) := by decide +kernel
theorem dX8_askMissing_14 : decode cX8_askMissing 14 = .ok (.istore 4, 2) := by decide +kernel
theorem dX8_askMissing_16 : decode cX8_askMissing 16 = .ok (.iload 4, 2) := by decide +kernel
theorem dX8_askMissing_18 : decode cX8_askMissing 18 = .ok (.aload_n 0, 1) := by decide +kernel
theorem dX8_askMissing_19 : decode cX8_askMissing 19 = .ok (.getfield 65, 3) := by decide +kernel
theorem dX8_askMissing_22 : decode cX8_askMissing 22 = .ok (.if_icmp .ge 49, 3) := by decide +kernel
theorem dX8_askMissing_25 : decode cX8_askMissing 25 = .ok (.iload_n 3, 1) := by decide +kernel
theorem dX8_askMissing_26 : decode cX8_askMissing 26 = .ok (.iload 4, 2) := by decide +kernel
theorem dX8_askMissing_28 : decode cX8_askMissing 28 = .ok (.invokestatic 334, 3) := by decide +kernel
theorem dX8_askMissing_31 : decode cX8_askMissing 31 = .ok (.ifCond .eq 34, 3) := by decide +kernel
theorem dX8_askMissing_34 : decode cX8_askMissing 34 = .ok (.aload_n 0, 1) := by decide +kernel
theorem dX8_askMissing_35 : decode cX8_askMissing 35 = .ok (.getfield 24, 3) := by decide +kernel
theorem dX8_askMissing_38 : decode cX8_askMissing 38 = .ok (.aload_n 1, 1) := by decide +kernel
theorem dX8_askMissing_39 : decode cX8_askMissing 39 = .ok (.aload_n 2, 1) := by decide +kernel
theorem dX8_askMissing_40 : decode cX8_askMissing 40 = .ok (.invokevirtual 337, 3) := by decide +kernel
theorem dX8_askMissing_43 : decode cX8_askMissing 43 = .ok (.iload 4, 2) := by decide +kernel
theorem dX8_askMissing_45 : decode cX8_askMissing 45 = .ok (.aload_n 1, 1) := by decide +kernel
theorem dX8_askMissing_46 : decode cX8_askMissing 46 = .ok (.getfield 259, 3) := by decide +kernel
theorem dX8_askMissing_49 : decode cX8_askMissing 49 = .ok (.aload_n 1, 1) := by decide +kernel
theorem dX8_askMissing_50 : decode cX8_askMissing 50 = .ok (.getfield 69, 3) := by decide +kernel
theorem dX8_askMissing_53 : decode cX8_askMissing 53 = .ok (.invokevirtual 286, 3) := by decide +kernel
theorem dX8_askMissing_56 : decode cX8_askMissing 56 = .ok (.astore 5, 2) := by decide +kernel
theorem dX8_askMissing_58 : decode cX8_askMissing 58 = .ok (.aload_n 1, 1) := by decide +kernel
theorem dX8_askMissing_59 : decode cX8_askMissing 59 = .ok (.aload_n 2, 1) := by decide +kernel
theorem dX8_askMissing_60 : decode cX8_askMissing 60 = .ok (.aload 5, 2) := by decide +kernel
theorem dX8_askMissing_62 : decode cX8_askMissing 62 = .ok (.invokevirtual 340, 3) := by decide +kernel
theorem dX8_askMissing_65 : decode cX8_askMissing 65 = .ok (.iinc 4 1, 3) := by decide +kernel
theorem dX8_askMissing_68 : decode cX8_askMissing 68 = .ok (.goto (-52), 3) := by decide +kernel
theorem dX8_askMissing_71 : decode cX8_askMissing 71 = .ok (.aload_n 1, 1) := by decide +kernel
theorem dX8_askMissing_72 : decode cX8_askMissing 72 = .ok (.dup, 1) := by decide +kernel
theorem dX8_askMissing_73 : decode cX8_askMissing 73 = .ok (.getfield 183, 3) := by decide +kernel
theorem dX8_askMissing_76 : decode cX8_askMissing 76 = .ok (.iload_n 3, 1) := by decide +kernel
theorem dX8_askMissing_77 : decode cX8_askMissing 77 = .ok (.ior, 1) := by decide +kernel
theorem dX8_askMissing_78 : decode cX8_askMissing 78 = .ok (.putfield 183, 3) := by decide +kernel
theorem dX8_askMissing_81 : decode cX8_askMissing 81 = .ok (.return_, 1) := by decide +kernel
theorem dX8_complete_0 : decode cX8_complete 0 = .ok (.aload_n 2, 1) := by decide +kernel
theorem dX8_complete_1 : decode cX8_complete 1 = .ok (.getfield 201, 3) := by decide +kernel
theorem dX8_complete_4 : decode cX8_complete 4 = .ok (.lookupswitch 129 #[(2, 28), (3, 90)], 28) := by decide +kernel
theorem dX8_complete_32 : decode cX8_complete 32 = .ok (.aload_n 1, 1) := by decide +kernel
theorem dX8_complete_33 : decode cX8_complete 33 = .ok (.getfield 69, 3) := by decide +kernel
theorem dX8_complete_36 : decode cX8_complete 36 = .ok (.aload_n 1, 1) := by decide +kernel
theorem dX8_complete_37 : decode cX8_complete 37 = .ok (.getfield 344, 3) := by decide +kernel
theorem dX8_complete_40 : decode cX8_complete 40 = .ok (.iconst 1, 1) := by decide +kernel
theorem dX8_complete_41 : decode cX8_complete 41 = .ok (.iadd, 1) := by decide +kernel
theorem dX8_complete_42 : decode cX8_complete 42 = .ok (.aload_n 1, 1) := by decide +kernel
theorem dX8_complete_43 : decode cX8_complete 43 = .ok (.getfield 345, 3) := by decide +kernel
theorem dX8_complete_46 : decode cX8_complete 46 = .ok (.iconst 0, 1) := by decide +kernel
theorem dX8_complete_47 : decode cX8_complete 47 = .ok (.iaload, 1) := by decide +kernel
theorem dX8_complete_48 : decode cX8_complete 48 = .ok (.invokevirtual 346, 3) := by decide +kernel
theorem dX8_complete_51 : decode cX8_complete 51 = .ok (.aload_n 0, 1) := by decide +kernel
theorem dX8_complete_52 : decode cX8_complete 52 = .ok (.aload_n 1, 1) := by decide +kernel
theorem dX8_complete_53 : decode cX8_complete 53 = .ok (.aload_n 1, 1) := by decide +kernel
theorem dX8_complete_54 : decode cX8_complete 54 = .ok (.getfield 349, 3) := by decide +kernel
theorem dX8_complete_57 : decode cX8_complete 57 = .ok (.aload_n 1, 1) := by decide +kernel
theorem dX8_complete_58 : decode cX8_complete 58 = .ok (.getfield 345, 3) := by decide +kernel
theorem dX8_complete_61 : decode cX8_complete 61 = .ok (.iconst 0, 1) := by decide +kernel
theorem dX8_complete_62 : decode cX8_complete 62 = .ok (.iaload, 1) := by decide +kernel
theorem dX8_complete_63 : decode cX8_complete 63 = .ok (.ior, 1) := by decide +kernel
theorem dX8_complete_64 : decode cX8_complete 64 = .ok (.invokevirtual 352, 3) := by decide +kernel
theorem dX8_complete_67 : decode cX8_complete 67 = .ok (.aload_n 0, 1) := by decide +kernel
theorem dX8_complete_68 : decode cX8_complete 68 = .ok (.aload_n 1, 1) := by decide +kernel
theorem dX8_complete_69 : decode cX8_complete 69 = .ok (.aload_n 2, 1) := by decide +kernel
theorem dX8_complete_70 : decode cX8_complete 70 = .ok (.aload_n 1, 1) := by decide +kernel
theorem dX8_complete_71 : decode cX8_complete 71 = .ok (.getfield 345, 3) := by decide +kernel
theorem dX8_complete_74 : decode cX8_complete 74 = .ok (.iconst 0, 1) := by decide +kernel
theorem dX8_complete_75 : decode cX8_complete 75 = .ok (.iaload, 1) := by decide +kernel
theorem dX8_complete_76 : decode cX8_complete 76 = .ok (.aload_n 2, 1) := by decide +kernel
theorem dX8_complete_77 : decode cX8_complete 77 = .ok (.getfield 203, 3) := by decide +kernel
theorem dX8_complete_80 : decode cX8_complete 80 = .ok (.if_icmp .ne 7, 3) := by decide +kernel
theorem dX8_complete_83 : decode cX8_complete 83 = .ok (.iconst 1, 1) := by decide +kernel
theorem dX8_complete_84 : decode cX8_complete 84 = .ok (.goto 4, 3) := by decide +kernel
theorem dX8_complete_87 : decode cX8_complete 87 = .ok (.iconst 0, 1) := by decide +kernel
theorem dX8_complete_88 : decode cX8_complete 88 = .ok (.invokevirtual 304, 3) := by decide +kernel
theorem dX8_complete_91 : decode cX8_complete 91 = .ok (.goto 54, 3) := by decide +kernel
theorem dX8_complete_94 : decode cX8_complete 94 = .ok (.aload_n 1, 1) := by decide +kernel
theorem dX8_complete_95 : decode cX8_complete 95 = .ok (.getfield 69, 3) := by decide +kernel
theorem dX8_complete_98 : decode cX8_complete 98 = .ok (.aload_n 1, 1) := by decide +kernel
theorem dX8_complete_99 : decode cX8_complete 99 = .ok (.getfield 344, 3) := by decide +kernel
theorem dX8_complete_102 : decode cX8_complete 102 = .ok (.iconst (-1), 1) := by decide +kernel
theorem dX8_complete_103 : decode cX8_complete 103 = .ok (.invokevirtual 346, 3) := by decide +kernel
theorem dX8_complete_106 : decode cX8_complete 106 = .ok (.aload_n 0, 1) := by decide +kernel
theorem dX8_complete_107 : decode cX8_complete 107 = .ok (.aload_n 1, 1) := by decide +kernel
theorem dX8_complete_108 : decode cX8_complete 108 = .ok (.aload_n 1, 1) := by decide +kernel
theorem dX8_complete_109 : decode cX8_complete 109 = .ok (.getfield 349, 3) := by decide +kernel
theorem dX8_complete_112 : decode cX8_complete 112 = .ok (.aload_n 1, 1) := by decide +kernel
theorem dX8_complete_113 : decode cX8_complete 113 = .ok (.getfield 356, 3) := by decide +kernel
theorem dX8_complete_116 : decode cX8_complete 116 = .ok (.ior, 1) := by decide +kernel
theorem dX8_complete_117 : decode cX8_complete 117 = .ok (.invokevirtual 352, 3) := by decide +kernel
theorem dX8_complete_120 : decode cX8_complete 120 = .ok (.aload_n 0, 1) := by decide +kernel
theorem dX8_complete_121 : decode cX8_complete 121 = .ok (.aload_n 1, 1) := by decide +kernel
theorem dX8_complete_122 : decode cX8_complete 122 = .ok (.aload_n 2, 1) := by decide +kernel
theorem dX8_complete_123 : decode cX8_complete 123 = .ok (.aload_n 1, 1) := by decide +kernel
theorem dX8_complete_124 : decode cX8_complete 124 = .ok (.getfield 344, 3) := by decide +kernel
theorem dX8_complete_127 : decode cX8_complete 127 = .ok (.invokevirtual 304, 3) := by decide +kernel
theorem dX8_complete_130 : decode cX8_complete 130 = .ok (.goto 15, 3) := by decide +kernel
theorem dX8_complete_133 : decode cX8_complete 133 = .ok (.aload_n 0, 1) := by decide +kernel
theorem dX8_complete_134 : decode cX8_complete 134 = .ok (.aload_n 1, 1) := by decide +kernel
theorem dX8_complete_135 : decode cX8_complete 135 = .ok (.aload_n 2, 1) := by decide +kernel
theorem dX8_complete_136 : decode cX8_complete 136 = .ok (.aload_n 1, 1) := by decide +kernel
theorem dX8_complete_137 : decode cX8_complete 137 = .ok (.getfield 345, 3) := by decide +kernel
theorem dX8_complete_140 : decode cX8_complete 140 = .ok (.iconst 0, 1) := by decide +kernel
theorem dX8_complete_141 : decode cX8_complete 141 = .ok (.iaload, 1) := by decide +kernel
theorem dX8_complete_142 : decode cX8_complete 142 = .ok (.invokevirtual 304, 3) := by decide +kernel
theorem dX8_complete_145 : decode cX8_complete 145 = .ok (.return_, 1) := by decide +kernel
theorem dX8_sendNews_0 : decode cX8_sendNews 0 = .ok (.iconst 0, 1) := by decide +kernel
theorem dX8_sendNews_1 : decode cX8_sendNews 1 = .ok (.istore_n 3, 1) := by decide +kernel
theorem dX8_sendNews_2 : decode cX8_sendNews 2 = .ok (.iload_n 3, 1) := by decide +kernel
theorem dX8_sendNews_3 : decode cX8_sendNews 3 = .ok (.aload_n 0, 1) := by decide +kernel
theorem dX8_sendNews_4 : decode cX8_sendNews 4 = .ok (.getfield 65, 3) := by decide +kernel
theorem dX8_sendNews_7 : decode cX8_sendNews 7 = .ok (.if_icmp .ge 36, 3) := by decide +kernel
theorem dX8_sendNews_10 : decode cX8_sendNews 10 = .ok (.iload_n 2, 1) := by decide +kernel
theorem dX8_sendNews_11 : decode cX8_sendNews 11 = .ok (.iload_n 3, 1) := by decide +kernel
theorem dX8_sendNews_12 : decode cX8_sendNews 12 = .ok (.invokestatic 334, 3) := by decide +kernel
theorem dX8_sendNews_15 : decode cX8_sendNews 15 = .ok (.ifCond .eq 22, 3) := by decide +kernel
theorem dX8_sendNews_18 : decode cX8_sendNews 18 = .ok (.aload_n 0, 1) := by decide +kernel
theorem dX8_sendNews_19 : decode cX8_sendNews 19 = .ok (.getfield 24, 3) := by decide +kernel
theorem dX8_sendNews_22 : decode cX8_sendNews 22 = .ok (.bipush 6, 2) := by decide +kernel
theorem dX8_sendNews_24 : decode cX8_sendNews 24 = .ok (.iload_n 3, 1) := by decide +kernel
theorem dX8_sendNews_25 : decode cX8_sendNews 25 = .ok (.aload_n 1, 1) := by decide +kernel
theorem dX8_sendNews_26 : decode cX8_sendNews 26 = .ok (.getfield 259, 3) := by decide +kernel
theorem dX8_sendNews_29 : decode cX8_sendNews 29 = .ok (.aload_n 1, 1) := by decide +kernel
theorem dX8_sendNews_30 : decode cX8_sendNews 30 = .ok (.getfield 69, 3) := by decide +kernel
theorem dX8_sendNews_33 : decode cX8_sendNews 33 = .ok (.invokevirtual 286, 3) := by decide +kernel
theorem dX8_sendNews_36 : decode cX8_sendNews 36 = .ok (.pop, 1) := by decide +kernel
theorem dX8_sendNews_37 : decode cX8_sendNews 37 = .ok (.iinc 3 1, 3) := by decide +kernel
theorem dX8_sendNews_40 : decode cX8_sendNews 40 = .ok (.goto (-38), 3) := by decide +kernel
theorem dX8_sendNews_43 : decode cX8_sendNews 43 = .ok (.return_, 1) := by decide +kernel
theorem dX8_finish_0 : decode cX8_finish 0 = .ok (.aload_n 0, 1) := by decide +kernel
theorem dX8_finish_1 : decode cX8_finish 1 = .ok (.getfield 31, 3) := by decide +kernel
theorem dX8_finish_4 : decode cX8_finish 4 = .ok (.aload_n 2, 1) := by decide +kernel
theorem dX8_finish_5 : decode cX8_finish 5 = .ok (.iload_n 3, 1) := by decide +kernel
theorem dX8_finish_6 : decode cX8_finish 6 = .ok (.invokevirtual 359, 3) := by decide +kernel
theorem dX8_finish_9 : decode cX8_finish 9 = .ok (.aload_n 1, 1) := by decide +kernel
theorem dX8_finish_10 : decode cX8_finish 10 = .ok (.aconst_null, 1) := by decide +kernel
theorem dX8_finish_11 : decode cX8_finish 11 = .ok (.putfield 173, 3) := by decide +kernel
theorem dX8_finish_14 : decode cX8_finish 14 = .ok (.return_, 1) := by decide +kernel
theorem dJ6_bitCount_0f7a4_0 : decode cJ6_bitCount_0f7a4 0 = .ok (.iload_n 0, 1) := by decide +kernel
theorem dJ6_bitCount_0f7a4_1 : decode cJ6_bitCount_0f7a4 1 = .ok (.iload_n 0, 1) := by decide +kernel
theorem dJ6_bitCount_0f7a4_2 : decode cJ6_bitCount_0f7a4 2 = .ok (.iconst 1, 1) := by decide +kernel
theorem dJ6_bitCount_0f7a4_3 : decode cJ6_bitCount_0f7a4 3 = .ok (.iushr, 1) := by decide +kernel
theorem dJ6_bitCount_0f7a4_4 : decode cJ6_bitCount_0f7a4 4 = .ok (.ldc_w 265, 3) := by decide +kernel
theorem dJ6_bitCount_0f7a4_7 : decode cJ6_bitCount_0f7a4 7 = .ok (.iand, 1) := by decide +kernel
theorem dJ6_bitCount_0f7a4_8 : decode cJ6_bitCount_0f7a4 8 = .ok (.isub, 1) := by decide +kernel
theorem dJ6_bitCount_0f7a4_9 : decode cJ6_bitCount_0f7a4 9 = .ok (.istore_n 0, 1) := by decide +kernel
theorem dJ6_bitCount_0f7a4_10 : decode cJ6_bitCount_0f7a4 10 = .ok (.iload_n 0, 1) := by decide +kernel
theorem dJ6_bitCount_0f7a4_11 : decode cJ6_bitCount_0f7a4 11 = .ok (.ldc_w 266, 3) := by decide +kernel
theorem dJ6_bitCount_0f7a4_14 : decode cJ6_bitCount_0f7a4 14 = .ok (.iand, 1) := by decide +kernel
theorem dJ6_bitCount_0f7a4_15 : decode cJ6_bitCount_0f7a4 15 = .ok (.iload_n 0, 1) := by decide +kernel
theorem dJ6_bitCount_0f7a4_16 : decode cJ6_bitCount_0f7a4 16 = .ok (.iconst 2, 1) := by decide +kernel
theorem dJ6_bitCount_0f7a4_17 : decode cJ6_bitCount_0f7a4 17 = .ok (.iushr, 1) := by decide +kernel
theorem dJ6_bitCount_0f7a4_18 : decode cJ6_bitCount_0f7a4 18 = .ok (.ldc_w 266, 3) := by decide +kernel
theorem dJ6_bitCount_0f7a4_21 : decode cJ6_bitCount_0f7a4 21 = .ok (.iand, 1) := by decide +kernel
theorem dJ6_bitCount_0f7a4_22 : decode cJ6_bitCount_0f7a4 22 = .ok (.iadd, 1) := by decide +kernel
theorem dJ6_bitCount_0f7a4_23 : decode cJ6_bitCount_0f7a4 23 = .ok (.istore_n 0, 1) := by decide +kernel
theorem dJ6_bitCount_0f7a4_24 : decode cJ6_bitCount_0f7a4 24 = .ok (.iload_n 0, 1) := by decide +kernel
theorem dJ6_bitCount_0f7a4_25 : decode cJ6_bitCount_0f7a4 25 = .ok (.iload_n 0, 1) := by decide +kernel
theorem dJ6_bitCount_0f7a4_26 : decode cJ6_bitCount_0f7a4 26 = .ok (.iconst 4, 1) := by decide +kernel
theorem dJ6_bitCount_0f7a4_27 : decode cJ6_bitCount_0f7a4 27 = .ok (.iushr, 1) := by decide +kernel
theorem dJ6_bitCount_0f7a4_28 : decode cJ6_bitCount_0f7a4 28 = .ok (.iadd, 1) := by decide +kernel
theorem dJ6_bitCount_0f7a4_29 : decode cJ6_bitCount_0f7a4 29 = .ok (.ldc_w 267, 3) := by decide +kernel
theorem dJ6_bitCount_0f7a4_32 : decode cJ6_bitCount_0f7a4 32 = .ok (.iand, 1) := by decide +kernel
theorem dJ6_bitCount_0f7a4_33 : decode cJ6_bitCount_0f7a4 33 = .ok (.istore_n 0, 1) := by decide +kernel
theorem dJ6_bitCount_0f7a4_34 : decode cJ6_bitCount_0f7a4 34 = .ok (.iload_n 0, 1) := by decide +kernel
theorem dJ6_bitCount_0f7a4_35 : decode cJ6_bitCount_0f7a4 35 = .ok (.iload_n 0, 1) := by decide +kernel
theorem dJ6_bitCount_0f7a4_36 : decode cJ6_bitCount_0f7a4 36 = .ok (.bipush 8, 2) := by decide +kernel
theorem dJ6_bitCount_0f7a4_38 : decode cJ6_bitCount_0f7a4 38 = .ok (.iushr, 1) := by decide +kernel
theorem dJ6_bitCount_0f7a4_39 : decode cJ6_bitCount_0f7a4 39 = .ok (.iadd, 1) := by decide +kernel
theorem dJ6_bitCount_0f7a4_40 : decode cJ6_bitCount_0f7a4 40 = .ok (.istore_n 0, 1) := by decide +kernel
theorem dJ6_bitCount_0f7a4_41 : decode cJ6_bitCount_0f7a4 41 = .ok (.iload_n 0, 1) := by decide +kernel
theorem dJ6_bitCount_0f7a4_42 : decode cJ6_bitCount_0f7a4 42 = .ok (.iload_n 0, 1) := by decide +kernel
theorem dJ6_bitCount_0f7a4_43 : decode cJ6_bitCount_0f7a4 43 = .ok (.bipush 16, 2) := by decide +kernel
theorem dJ6_bitCount_0f7a4_45 : decode cJ6_bitCount_0f7a4 45 = .ok (.iushr, 1) := by decide +kernel
theorem dJ6_bitCount_0f7a4_46 : decode cJ6_bitCount_0f7a4 46 = .ok (.iadd, 1) := by decide +kernel
theorem dJ6_bitCount_0f7a4_47 : decode cJ6_bitCount_0f7a4 47 = .ok (.istore_n 0, 1) := by decide +kernel
theorem dJ6_bitCount_0f7a4_48 : decode cJ6_bitCount_0f7a4 48 = .ok (.iload_n 0, 1) := by decide +kernel
theorem dJ6_bitCount_0f7a4_49 : decode cJ6_bitCount_0f7a4 49 = .ok (.bipush 63, 2) := by decide +kernel
theorem dJ6_bitCount_0f7a4_51 : decode cJ6_bitCount_0f7a4 51 = .ok (.iand, 1) := by decide +kernel
theorem dJ6_bitCount_0f7a4_52 : decode cJ6_bitCount_0f7a4 52 = .ok (.ireturn, 1) := by decide +kernel
theorem dJ9_max_7cf53_0 : decode cJ9_max_7cf53 0 = .ok (.iload_n 0, 1) := by decide +kernel
theorem dJ9_max_7cf53_1 : decode cJ9_max_7cf53 1 = .ok (.iload_n 1, 1) := by decide +kernel
theorem dJ9_max_7cf53_2 : decode cJ9_max_7cf53 2 = .ok (.if_icmp .lt 7, 3) := by decide +kernel
theorem dJ9_max_7cf53_5 : decode cJ9_max_7cf53 5 = .ok (.iload_n 0, 1) := by decide +kernel
theorem dJ9_max_7cf53_6 : decode cJ9_max_7cf53 6 = .ok (.goto 4, 3) := by decide +kernel
theorem dJ9_max_7cf53_9 : decode cJ9_max_7cf53 9 = .ok (.iload_n 1, 1) := by decide +kernel
theorem dJ9_max_7cf53_10 : decode cJ9_max_7cf53 10 = .ok (.ireturn, 1) := by decide +kernel
theorem dJ9_min_7cf53_0 : decode cJ9_min_7cf53 0 = .ok (.iload_n 0, 1) := by decide +kernel
theorem dJ9_min_7cf53_1 : decode cJ9_min_7cf53 1 = .ok (.iload_n 1, 1) := by decide +kernel
theorem dJ9_min_7cf53_2 : decode cJ9_min_7cf53 2 = .ok (.if_icmp .gt 7, 3) := by decide +kernel
theorem dJ9_min_7cf53_5 : decode cJ9_min_7cf53 5 = .ok (.iload_n 0, 1) := by decide +kernel
theorem dJ9_min_7cf53_6 : decode cJ9_min_7cf53 6 = .ok (.goto 4, 3) := by decide +kernel
theorem dJ9_min_7cf53_9 : decode cJ9_min_7cf53 9 = .ok (.iload_n 1, 1) := by decide +kernel
theorem dJ9_min_7cf53_10 : decode cJ9_min_7cf53 10 = .ok (.ireturn, 1) := by decide +kernel
theorem dJxa1e45_init_da8c8_0 : decode cJxa1e45_init_da8c8 0 = .ok (.aload_n 0, 1) := by decide +kernel
theorem dJxa1e45_init_da8c8_1 : decode cJxa1e45_init_da8c8 1 = .ok (.invokespecial 1, 3) := by decide +kernel
theorem dJxa1e45_init_da8c8_4 : decode cJxa1e45_init_da8c8 4 = .ok (.return_, 1) := by decide +kernel
theorem dJxc12de_init_da8c8_0 : decode cJxc12de_init_da8c8 0 = .ok (.aload_n 0, 1) := by decide +kernel
theorem dJxc12de_init_da8c8_1 : decode cJxc12de_init_da8c8 1 = .ok (.invokespecial 1, 3) := by decide +kernel
theorem dJxc12de_init_da8c8_4 : decode cJxc12de_init_da8c8 4 = .ok (.aload_n 0, 1) := by decide +kernel
theorem dJxc12de_init_da8c8_5 : decode cJxc12de_init_da8c8 5 = .ok (.iconst 0, 1) := by decide +kernel
theorem dJxc12de_init_da8c8_6 : decode cJxc12de_init_da8c8 6 = .ok (.putfield 7, 3) := by decide +kernel
theorem dJxc12de_init_da8c8_9 : decode cJxc12de_init_da8c8 9 = .ok (.return_, 1) := by decide +kernel
theorem dJx4a65c_init_da8c8_0 : decode cJx4a65c_init_da8c8 0 = .ok (.aload_n 0, 1) := by decide +kernel
theorem dJx4a65c_init_da8c8_1 : decode cJx4a65c_init_da8c8 1 = .ok (.invokespecial 1, 3) := by decide +kernel
theorem dJx4a65c_init_da8c8_4 : decode cJx4a65c_init_da8c8 4 = .ok (.aload_n 0, 1) := by decide +kernel
theorem dJx4a65c_init_da8c8_5 : decode cJx4a65c_init_da8c8 5 = .ok (.getstatic 39, 3) := by decide +kernel
theorem dJx4a65c_init_da8c8_8 : decode cJx4a65c_init_da8c8 8 = .ok (.putfield 9, 3) := by decide +kernel
theorem dJx4a65c_init_da8c8_11 : decode cJx4a65c_init_da8c8 11 = .ok (.return_, 1) := by decide +kernel
theorem dJx4a65c_grow_92f84_0 : decode cJx4a65c_grow_92f84 0 = .ok (.aload_n 0, 1) := by decide +kernel
theorem dJx4a65c_grow_92f84_1 : decode cJx4a65c_grow_92f84 1 = .ok (.getfield 9, 3) := by decide +kernel
theorem dJx4a65c_grow_92f84_4 : decode cJx4a65c_grow_92f84 4 = .ok (.arraylength, 1) := by decide +kernel
theorem dJx4a65c_grow_92f84_5 : decode cJx4a65c_grow_92f84 5 = .ok (.istore_n 2, 1) := by decide +kernel
theorem dJx4a65c_grow_92f84_6 : decode cJx4a65c_grow_92f84 6 = .ok (.iload_n 2, 1) := by decide +kernel
theorem dJx4a65c_grow_92f84_7 : decode cJx4a65c_grow_92f84 7 = .ok (.ifCond .gt 13, 3) := by decide +kernel
theorem dJx4a65c_grow_92f84_10 : decode cJx4a65c_grow_92f84 10 = .ok (.aload_n 0, 1) := by decide +kernel
theorem dJx4a65c_grow_92f84_11 : decode cJx4a65c_grow_92f84 11 = .ok (.getfield 9, 3) := by decide +kernel
theorem dJx4a65c_grow_92f84_14 : decode cJx4a65c_grow_92f84 14 = .ok (.getstatic 39, 3) := by decide +kernel
theorem dJx4a65c_grow_92f84_17 : decode cJx4a65c_grow_92f84 17 = .ok (.if_acmp .eq 28, 3) := by decide +kernel
theorem dJx4a65c_grow_92f84_20 : decode cJx4a65c_grow_92f84 20 = .ok (.iload_n 2, 1) := by decide +kernel
theorem dJx4a65c_grow_92f84_21 : decode cJx4a65c_grow_92f84 21 = .ok (.iload_n 1, 1) := by decide +kernel
theorem dJx4a65c_grow_92f84_22 : decode cJx4a65c_grow_92f84 22 = .ok (.iload_n 2, 1) := by decide +kernel
theorem dJx4a65c_grow_92f84_23 : decode cJx4a65c_grow_92f84 23 = .ok (.isub, 1) := by decide +kernel
theorem dJx4a65c_grow_92f84_24 : decode cJx4a65c_grow_92f84 24 = .ok (.iload_n 2, 1) := by decide +kernel
theorem dJx4a65c_grow_92f84_25 : decode cJx4a65c_grow_92f84 25 = .ok (.iconst 1, 1) := by decide +kernel
theorem dJx4a65c_grow_92f84_26 : decode cJx4a65c_grow_92f84 26 = .ok (.ishr, 1) := by decide +kernel
theorem dJx4a65c_grow_92f84_27 : decode cJx4a65c_grow_92f84 27 = .ok (.invokestatic 73, 3) := by decide +kernel
theorem dJx4a65c_grow_92f84_30 : decode cJx4a65c_grow_92f84 30 = .ok (.istore_n 3, 1) := by decide +kernel
theorem dJx4a65c_grow_92f84_31 : decode cJx4a65c_grow_92f84 31 = .ok (.aload_n 0, 1) := by decide +kernel
theorem dJx4a65c_grow_92f84_32 : decode cJx4a65c_grow_92f84 32 = .ok (.aload_n 0, 1) := by decide +kernel
theorem dJx4a65c_grow_92f84_33 : decode cJx4a65c_grow_92f84 33 = .ok (.getfield 9, 3) := by decide +kernel
theorem dJx4a65c_grow_92f84_36 : decode cJx4a65c_grow_92f84 36 = .ok (.iload_n 3, 1) := by decide +kernel
theorem dJx4a65c_grow_92f84_37 : decode cJx4a65c_grow_92f84 37 = .ok (.invokestatic 66, 3) := by decide +kernel
theorem dJx4a65c_grow_92f84_40 : decode cJx4a65c_grow_92f84 40 = .ok (.dup_x1, 1) := by decide +kernel
theorem dJx4a65c_grow_92f84_41 : decode cJx4a65c_grow_92f84 41 = .ok (.putfield 9, 3) := by decide +kernel
theorem dJx4a65c_grow_92f84_44 : decode cJx4a65c_grow_92f84 44 = .ok (.areturn, 1) := by decide +kernel
theorem dJx4a65c_grow_92f84_45 : decode cJx4a65c_grow_92f84 45 = .ok (.aload_n 0, 1) := by decide +kernel
theorem dJx4a65c_grow_92f84_46 : decode cJx4a65c_grow_92f84 46 = .ok (.bipush 10, 2) := by decide +kernel
theorem dJx4a65c_grow_92f84_48 : decode cJx4a65c_grow_92f84 48 = .ok (.iload_n 1, 1) := by decide +kernel
theorem dJx4a65c_grow_92f84_49 : decode cJx4a65c_grow_92f84 49 = .ok (.invokestatic 79, 3) := by decide +kernel
theorem dJx4a65c_grow_92f84_52 : decode cJx4a65c_grow_92f84 52 = .ok (.anewarray 7, 3) := by decide +kernel
theorem dJx4a65c_grow_92f84_55 : decode cJx4a65c_grow_92f84 55 = .ok (.dup_x1, 1) := by decide +kernel
theorem dJx4a65c_grow_92f84_56 : decode cJx4a65c_grow_92f84 56 = .ok (.putfield 9, 3) := by decide +kernel
theorem dJx4a65c_grow_92f84_59 : decode cJx4a65c_grow_92f84 59 = .ok (.areturn, 1) := by decide +kernel
theorem dJx4a65c_grow_d5877_0 : decode cJx4a65c_grow_d5877 0 = .ok (.aload_n 0, 1) := by decide +kernel
theorem dJx4a65c_grow_d5877_1 : decode cJx4a65c_grow_d5877 1 = .ok (.aload_n 0, 1) := by decide +kernel
theorem dJx4a65c_grow_d5877_2 : decode cJx4a65c_grow_d5877 2 = .ok (.getfield 48, 3) := by decide +kernel
theorem dJx4a65c_grow_d5877_5 : decode cJx4a65c_grow_d5877 5 = .ok (.iconst 1, 1) := by decide +kernel
theorem dJx4a65c_grow_d5877_6 : decode cJx4a65c_grow_d5877 6 = .ok (.iadd, 1) := by decide +kernel
theorem dJx4a65c_grow_d5877_7 : decode cJx4a65c_grow_d5877 7 = .ok (.invokevirtual 69, 3) := by decide +kernel
theorem dJx4a65c_grow_d5877_10 : decode cJx4a65c_grow_d5877 10 = .ok (.areturn, 1) := by decide +kernel
theorem dJx4a65c_size_8abf5_0 : decode cJx4a65c_size_8abf5 0 = .ok (.aload_n 0, 1) := by decide +kernel
theorem dJx4a65c_size_8abf5_1 : decode cJx4a65c_size_8abf5 1 = .ok (.getfield 48, 3) := by decide +kernel
theorem dJx4a65c_size_8abf5_4 : decode cJx4a65c_size_8abf5 4 = .ok (.ireturn, 1) := by decide +kernel
theorem dJx4a65c_isEmpty_aae02_0 : decode cJx4a65c_isEmpty_aae02 0 = .ok (.aload_n 0, 1) := by decide +kernel
theorem dJx4a65c_isEmpty_aae02_1 : decode cJx4a65c_isEmpty_aae02 1 = .ok (.getfield 48, 3) := by decide +kernel
theorem dJx4a65c_isEmpty_aae02_4 : decode cJx4a65c_isEmpty_aae02 4 = .ok (.ifCond .ne 7, 3) := by decide +kernel
theorem dJx4a65c_isEmpty_aae02_7 : decode cJx4a65c_isEmpty_aae02 7 = .ok (.iconst 1, 1) := by decide +kernel
theorem dJx4a65c_isEmpty_aae02_8 : decode cJx4a65c_isEmpty_aae02 8 = .ok (.goto 4, 3) := by decide +kernel
theorem dJx4a65c_isEmpty_aae02_11 : decode cJx4a65c_isEmpty_aae02 11 = .ok (.iconst 0, 1) := by decide +kernel
theorem dJx4a65c_isEmpty_aae02_12 : decode cJx4a65c_isEmpty_aae02 12 = .ok (.ireturn, 1) := by decide +kernel
theorem dJx4a65c_elementData_915e3_0 : decode cJx4a65c_elementData_915e3 0 = .ok (.aload_n 0, 1) := by decide +kernel
theorem dJx4a65c_elementData_915e3_1 : decode cJx4a65c_elementData_915e3 1 = .ok (.getfield 9, 3) := by decide +kernel
theorem dJx4a65c_elementData_915e3_4 : decode cJx4a65c_elementData_915e3 4 = .ok (.iload_n 1, 1) := by decide +kernel
theorem dJx4a65c_elementData_915e3_5 : decode cJx4a65c_elementData_915e3 5 = .ok (.aaload, 1) := by decide +kernel
theorem dJx4a65c_elementData_915e3_6 : decode cJx4a65c_elementData_915e3 6 = .ok (.areturn, 1) := by decide +kernel
theorem dJx4a65c_get_915e3_0 : decode cJx4a65c_get_915e3 0 = .ok (.iload_n 1, 1) := by decide +kernel
theorem dJx4a65c_get_915e3_1 : decode cJx4a65c_get_915e3 1 = .ok (.aload_n 0, 1) := by decide +kernel
theorem dJx4a65c_get_915e3_2 : decode cJx4a65c_get_915e3 2 = .ok (.getfield 48, 3) := by decide +kernel
theorem dJx4a65c_get_915e3_5 : decode cJx4a65c_get_915e3 5 = .ok (.invokestatic 118, 3) := by decide +kernel
theorem dJx4a65c_get_915e3_8 : decode cJx4a65c_get_915e3 8 = .ok (.pop, 1) := by decide +kernel
theorem dJx4a65c_get_915e3_9 : decode cJx4a65c_get_915e3 9 = .ok (.aload_n 0, 1) := by decide +kernel
theorem dJx4a65c_get_915e3_10 : decode cJx4a65c_get_915e3 10 = .ok (.iload_n 1, 1) := by decide +kernel
theorem dJx4a65c_get_915e3_11 : decode cJx4a65c_get_915e3 11 = .ok (.invokevirtual 123, 3) := by decide +kernel
theorem dJx4a65c_get_915e3_14 : decode cJx4a65c_get_915e3 14 = .ok (.areturn, 1) := by decide +kernel
theorem dJx4a65c_add_72be8_0 : decode cJx4a65c_add_72be8 0 = .ok (.iload_n 3, 1) := by decide +kernel
theorem dJx4a65c_add_72be8_1 : decode cJx4a65c_add_72be8 1 = .ok (.aload_n 2, 1) := by decide +kernel
theorem dJx4a65c_add_72be8_2 : decode cJx4a65c_add_72be8 2 = .ok (.arraylength, 1) := by decide +kernel
theorem dJx4a65c_add_72be8_3 : decode cJx4a65c_add_72be8 3 = .ok (.if_icmp .ne 8, 3) := by decide +kernel
theorem dJx4a65c_add_72be8_6 : decode cJx4a65c_add_72be8 6 = .ok (.aload_n 0, 1) := by decide +kernel
theorem dJx4a65c_add_72be8_7 : decode cJx4a65c_add_72be8 7 = .ok (.invokevirtual 129, 3) := by decide +kernel
theorem dJx4a65c_add_72be8_10 : decode cJx4a65c_add_72be8 10 = .ok (.astore_n 2, 1) := by decide +kernel
theorem dJx4a65c_add_72be8_11 : decode cJx4a65c_add_72be8 11 = .ok (.aload_n 2, 1) := by decide +kernel
theorem dJx4a65c_add_72be8_12 : decode cJx4a65c_add_72be8 12 = .ok (.iload_n 3, 1) := by decide +kernel
theorem dJx4a65c_add_72be8_13 : decode cJx4a65c_add_72be8 13 = .ok (.aload_n 1, 1) := by decide +kernel
theorem dJx4a65c_add_72be8_14 : decode cJx4a65c_add_72be8 14 = .ok (.aastore, 1) := by decide +kernel
theorem dJx4a65c_add_72be8_15 : decode cJx4a65c_add_72be8 15 = .ok (.aload_n 0, 1) := by decide +kernel
theorem dJx4a65c_add_72be8_16 : decode cJx4a65c_add_72be8 16 = .ok (.iload_n 3, 1) := by decide +kernel
theorem dJx4a65c_add_72be8_17 : decode cJx4a65c_add_72be8 17 = .ok (.iconst 1, 1) := by decide +kernel
theorem dJx4a65c_add_72be8_18 : decode cJx4a65c_add_72be8 18 = .ok (.iadd, 1) := by decide +kernel
theorem dJx4a65c_add_72be8_19 : decode cJx4a65c_add_72be8 19 = .ok (.putfield 48, 3) := by decide +kernel
theorem dJx4a65c_add_72be8_22 : decode cJx4a65c_add_72be8 22 = .ok (.return_, 1) := by decide +kernel
theorem dJx4a65c_add_9ea2d_0 : decode cJx4a65c_add_9ea2d 0 = .ok (.aload_n 0, 1) := by decide +kernel
theorem dJx4a65c_add_9ea2d_1 : decode cJx4a65c_add_9ea2d 1 = .ok (.dup, 1) := by decide +kernel
theorem dJx4a65c_add_9ea2d_2 : decode cJx4a65c_add_9ea2d 2 = .ok (.getfield 63, 3) := by decide +kernel
theorem dJx4a65c_add_9ea2d_5 : decode cJx4a65c_add_9ea2d 5 = .ok (.iconst 1, 1) := by decide +kernel
theorem dJx4a65c_add_9ea2d_6 : decode cJx4a65c_add_9ea2d 6 = .ok (.iadd, 1) := by decide +kernel
theorem dJx4a65c_add_9ea2d_7 : decode cJx4a65c_add_9ea2d 7 = .ok (.putfield 63, 3) := by decide +kernel
theorem dJx4a65c_add_9ea2d_10 : decode cJx4a65c_add_9ea2d 10 = .ok (.aload_n 0, 1) := by decide +kernel
theorem dJx4a65c_add_9ea2d_11 : decode cJx4a65c_add_9ea2d 11 = .ok (.aload_n 1, 1) := by decide +kernel
theorem dJx4a65c_add_9ea2d_12 : decode cJx4a65c_add_9ea2d 12 = .ok (.aload_n 0, 1) := by decide +kernel
theorem dJx4a65c_add_9ea2d_13 : decode cJx4a65c_add_9ea2d 13 = .ok (.getfield 9, 3) := by decide +kernel
theorem dJx4a65c_add_9ea2d_16 : decode cJx4a65c_add_9ea2d 16 = .ok (.aload_n 0, 1) := by decide +kernel
theorem dJx4a65c_add_9ea2d_17 : decode cJx4a65c_add_9ea2d 17 = .ok (.getfield 48, 3) := by decide +kernel
theorem dJx4a65c_add_9ea2d_20 : decode cJx4a65c_add_9ea2d 20 = .ok (.invokevirtual 131, 3) := by decide +kernel
theorem dJx4a65c_add_9ea2d_23 : decode cJx4a65c_add_9ea2d 23 = .ok (.iconst 1, 1) := by decide +kernel
theorem dJx4a65c_add_9ea2d_24 : decode cJx4a65c_add_9ea2d 24 = .ok (.ireturn, 1) := by decide +kernel
theorem dJx4a65c_remove_915e3_0 : decode cJx4a65c_remove_915e3 0 = .ok (.iload_n 1, 1) := by decide +kernel
theorem dJx4a65c_remove_915e3_1 : decode cJx4a65c_remove_915e3 1 = .ok (.aload_n 0, 1) := by decide +kernel
theorem dJx4a65c_remove_915e3_2 : decode cJx4a65c_remove_915e3 2 = .ok (.getfield 48, 3) := by decide +kernel
theorem dJx4a65c_remove_915e3_5 : decode cJx4a65c_remove_915e3 5 = .ok (.invokestatic 118, 3) := by decide +kernel
theorem dJx4a65c_remove_915e3_8 : decode cJx4a65c_remove_915e3 8 = .ok (.pop, 1) := by decide +kernel
theorem dJx4a65c_remove_915e3_9 : decode cJx4a65c_remove_915e3 9 = .ok (.aload_n 0, 1) := by decide +kernel
theorem dJx4a65c_remove_915e3_10 : decode cJx4a65c_remove_915e3 10 = .ok (.getfield 9, 3) := by decide +kernel
theorem dJx4a65c_remove_915e3_13 : decode cJx4a65c_remove_915e3 13 = .ok (.astore_n 2, 1) := by decide +kernel
theorem dJx4a65c_remove_915e3_14 : decode cJx4a65c_remove_915e3 14 = .ok (.aload_n 2, 1) := by decide +kernel
theorem dJx4a65c_remove_915e3_15 : decode cJx4a65c_remove_915e3 15 = .ok (.iload_n 1, 1) := by decide +kernel
theorem dJx4a65c_remove_915e3_16 : decode cJx4a65c_remove_915e3 16 = .ok (.aaload, 1) := by decide +kernel
theorem dJx4a65c_remove_915e3_17 : decode cJx4a65c_remove_915e3 17 = .ok (.astore_n 3, 1) := by decide +kernel
theorem dJx4a65c_remove_915e3_18 : decode cJx4a65c_remove_915e3 18 = .ok (.aload_n 0, 1) := by decide +kernel
theorem dJx4a65c_remove_915e3_19 : decode cJx4a65c_remove_915e3 19 = .ok (.aload_n 2, 1) := by decide +kernel
theorem dJx4a65c_remove_915e3_20 : decode cJx4a65c_remove_915e3 20 = .ok (.iload_n 1, 1) := by decide +kernel
theorem dJx4a65c_remove_915e3_21 : decode cJx4a65c_remove_915e3 21 = .ok (.invokevirtual 144, 3) := by decide +kernel
theorem dJx4a65c_remove_915e3_24 : decode cJx4a65c_remove_915e3 24 = .ok (.aload_n 3, 1) := by decide +kernel
theorem dJx4a65c_remove_915e3_25 : decode cJx4a65c_remove_915e3 25 = .ok (.areturn, 1) := by decide +kernel
theorem dJx4a65c_fastRemove_b59b0_0 : decode cJx4a65c_fastRemove_b59b0 0 = .ok (.aload_n 0, 1) := by decide +kernel
theorem dJx4a65c_fastRemove_b59b0_1 : decode cJx4a65c_fastRemove_b59b0 1 = .ok (.dup, 1) := by decide +kernel
theorem dJx4a65c_fastRemove_b59b0_2 : decode cJx4a65c_fastRemove_b59b0 2 = .ok (.getfield 63, 3) := by decide +kernel
theorem dJx4a65c_fastRemove_b59b0_5 : decode cJx4a65c_fastRemove_b59b0 5 = .ok (.iconst 1, 1) := by decide +kernel
theorem dJx4a65c_fastRemove_b59b0_6 : decode cJx4a65c_fastRemove_b59b0 6 = .ok (.iadd, 1) := by decide +kernel
theorem dJx4a65c_fastRemove_b59b0_7 : decode cJx4a65c_fastRemove_b59b0 7 = .ok (.putfield 63, 3) := by decide +kernel
theorem dJx4a65c_fastRemove_b59b0_10 : decode cJx4a65c_fastRemove_b59b0 10 = .ok (.aload_n 0, 1) := by decide +kernel
theorem dJx4a65c_fastRemove_b59b0_11 : decode cJx4a65c_fastRemove_b59b0 11 = .ok (.getfield 48, 3) := by decide +kernel
theorem dJx4a65c_fastRemove_b59b0_14 : decode cJx4a65c_fastRemove_b59b0 14 = .ok (.iconst 1, 1) := by decide +kernel
theorem dJx4a65c_fastRemove_b59b0_15 : decode cJx4a65c_fastRemove_b59b0 15 = .ok (.isub, 1) := by decide +kernel
theorem dJx4a65c_fastRemove_b59b0_16 : decode cJx4a65c_fastRemove_b59b0 16 = .ok (.dup, 1) := by decide +kernel
theorem dJx4a65c_fastRemove_b59b0_17 : decode cJx4a65c_fastRemove_b59b0 17 = .ok (.istore_n 3, 1) := by decide +kernel
theorem dJx4a65c_fastRemove_b59b0_18 : decode cJx4a65c_fastRemove_b59b0 18 = .ok (.iload_n 2, 1) := by decide +kernel
theorem dJx4a65c_fastRemove_b59b0_19 : decode cJx4a65c_fastRemove_b59b0 19 = .ok (.if_icmp .le 15, 3) := by decide +kernel
theorem dJx4a65c_fastRemove_b59b0_22 : decode cJx4a65c_fastRemove_b59b0 22 = .ok (.aload_n 1, 1) := by decide +kernel
theorem dJx4a65c_fastRemove_b59b0_23 : decode cJx4a65c_fastRemove_b59b0 23 = .ok (.iload_n 2, 1) := by decide +kernel
theorem dJx4a65c_fastRemove_b59b0_24 : decode cJx4a65c_fastRemove_b59b0 24 = .ok (.iconst 1, 1) := by decide +kernel
theorem dJx4a65c_fastRemove_b59b0_25 : decode cJx4a65c_fastRemove_b59b0 25 = .ok (.iadd, 1) := by decide +kernel
theorem dJx4a65c_fastRemove_b59b0_26 : decode cJx4a65c_fastRemove_b59b0 26 = .ok (.aload_n 1, 1) := by decide +kernel
theorem dJx4a65c_fastRemove_b59b0_27 : decode cJx4a65c_fastRemove_b59b0 27 = .ok (.iload_n 2, 1) := by decide +kernel
theorem dJx4a65c_fastRemove_b59b0_28 : decode cJx4a65c_fastRemove_b59b0 28 = .ok (.iload_n 3, 1) := by decide +kernel
theorem dJx4a65c_fastRemove_b59b0_29 : decode cJx4a65c_fastRemove_b59b0 29 = .ok (.iload_n 2, 1) := by decide +kernel
theorem dJx4a65c_fastRemove_b59b0_30 : decode cJx4a65c_fastRemove_b59b0 30 = .ok (.isub, 1) := by decide +kernel
theorem dJx4a65c_fastRemove_b59b0_31 : decode cJx4a65c_fastRemove_b59b0 31 = .ok (.invokestatic 112, 3) := by decide +kernel
theorem dJx4a65c_fastRemove_b59b0_34 : decode cJx4a65c_fastRemove_b59b0 34 = .ok (.aload_n 1, 1) := by decide +kernel
theorem dJx4a65c_fastRemove_b59b0_35 : decode cJx4a65c_fastRemove_b59b0 35 = .ok (.aload_n 0, 1) := by decide +kernel
theorem dJx4a65c_fastRemove_b59b0_36 : decode cJx4a65c_fastRemove_b59b0 36 = .ok (.iload_n 3, 1) := by decide +kernel
theorem dJx4a65c_fastRemove_b59b0_37 : decode cJx4a65c_fastRemove_b59b0 37 = .ok (.dup_x1, 1) := by decide +kernel
theorem dJx4a65c_fastRemove_b59b0_38 : decode cJx4a65c_fastRemove_b59b0 38 = .ok (.putfield 48, 3) := by decide +kernel
theorem dJx4a65c_fastRemove_b59b0_41 : decode cJx4a65c_fastRemove_b59b0 41 = .ok (.aconst_null, 1) := by decide +kernel
theorem dJx4a65c_fastRemove_b59b0_42 : decode cJx4a65c_fastRemove_b59b0 42 = .ok (.aastore, 1) := by decide +kernel
theorem dJx4a65c_fastRemove_b59b0_43 : decode cJx4a65c_fastRemove_b59b0 43 = .ok (.return_, 1) := by decide +kernel
theorem dJx4a65c_clear_da8c8_0 : decode cJx4a65c_clear_da8c8 0 = .ok (.aload_n 0, 1) := by decide +kernel
theorem dJx4a65c_clear_da8c8_1 : decode cJx4a65c_clear_da8c8 1 = .ok (.dup, 1) := by decide +kernel
theorem dJx4a65c_clear_da8c8_2 : decode cJx4a65c_clear_da8c8 2 = .ok (.getfield 63, 3) := by decide +kernel
theorem dJx4a65c_clear_da8c8_5 : decode cJx4a65c_clear_da8c8 5 = .ok (.iconst 1, 1) := by decide +kernel
theorem dJx4a65c_clear_da8c8_6 : decode cJx4a65c_clear_da8c8 6 = .ok (.iadd, 1) := by decide +kernel
theorem dJx4a65c_clear_da8c8_7 : decode cJx4a65c_clear_da8c8 7 = .ok (.putfield 63, 3) := by decide +kernel
theorem dJx4a65c_clear_da8c8_10 : decode cJx4a65c_clear_da8c8 10 = .ok (.aload_n 0, 1) := by decide +kernel
theorem dJx4a65c_clear_da8c8_11 : decode cJx4a65c_clear_da8c8 11 = .ok (.getfield 9, 3) := by decide +kernel
theorem dJx4a65c_clear_da8c8_14 : decode cJx4a65c_clear_da8c8 14 = .ok (.astore_n 1, 1) := by decide +kernel
theorem dJx4a65c_clear_da8c8_15 : decode cJx4a65c_clear_da8c8 15 = .ok (.aload_n 0, 1) := by decide +kernel
theorem dJx4a65c_clear_da8c8_16 : decode cJx4a65c_clear_da8c8 16 = .ok (.getfield 48, 3) := by decide +kernel
theorem dJx4a65c_clear_da8c8_19 : decode cJx4a65c_clear_da8c8 19 = .ok (.istore_n 2, 1) := by decide +kernel
theorem dJx4a65c_clear_da8c8_20 : decode cJx4a65c_clear_da8c8 20 = .ok (.aload_n 0, 1) := by decide +kernel
theorem dJx4a65c_clear_da8c8_21 : decode cJx4a65c_clear_da8c8 21 = .ok (.iconst 0, 1) := by decide +kernel
theorem dJx4a65c_clear_da8c8_22 : decode cJx4a65c_clear_da8c8 22 = .ok (.dup_x1, 1) := by decide +kernel
theorem dJx4a65c_clear_da8c8_23 : decode cJx4a65c_clear_da8c8 23 = .ok (.putfield 48, 3) := by decide +kernel
theorem dJx4a65c_clear_da8c8_26 : decode cJx4a65c_clear_da8c8 26 = .ok (.istore_n 3, 1) := by decide +kernel
theorem dJx4a65c_clear_da8c8_27 : decode cJx4a65c_clear_da8c8 27 = .ok (.iload_n 3, 1) := by decide +kernel
theorem dJx4a65c_clear_da8c8_28 : decode cJx4a65c_clear_da8c8 28 = .ok (.iload_n 2, 1) := by decide +kernel
theorem dJx4a65c_clear_da8c8_29 : decode cJx4a65c_clear_da8c8 29 = .ok (.if_icmp .ge 13, 3) := by decide +kernel
theorem dJx4a65c_clear_da8c8_32 : decode cJx4a65c_clear_da8c8 32 = .ok (.aload_n 1, 1) := by decide +kernel
theorem dJx4a65c_clear_da8c8_33 : decode cJx4a65c_clear_da8c8 33 = .ok (.iload_n 3, 1) := by decide +kernel
theorem dJx4a65c_clear_da8c8_34 : decode cJx4a65c_clear_da8c8 34 = .ok (.aconst_null, 1) := by decide +kernel
