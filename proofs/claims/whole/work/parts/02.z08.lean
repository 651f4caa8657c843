theorem dX8_init_18 : decode cX8_init 18 = .ok (.putfield 17, 3) := by decide +kernel
theorem dX8_init_21 : decode cX8_init 21 = .ok (.aload_n 0, 1) := by decide +kernel
theorem dX8_init_22 : decode cX8_init 22 = .ok (.new 21, 3) := by decide +kernel
theorem dX8_init_25 : decode cX8_init 25 = .ok (.dup, 1) := by decide +kernel
theorem dX8_init_26 : decode cX8_init 26 = .ok (.invokespecial 23, 3) := by decide +kernel
theorem dX8_init_29 : decode cX8_init 29 = .ok (.putfield 24, 3) := by decide +kernel
theorem dX8_init_32 : decode cX8_init 32 = .ok (.aload_n 0, 1) := by decide +kernel
theorem dX8_init_33 : decode cX8_init 33 = .ok (.new 28, 3) := by decide +kernel
theorem dX8_init_36 : decode cX8_init 36 = .ok (.dup, 1) := by decide +kernel
theorem dX8_init_37 : decode cX8_init 37 = .ok (.invokespecial 30, 3) := by decide +kernel
theorem dX8_init_40 : decode cX8_init 40 = .ok (.putfield 31, 3) := by decide +kernel
theorem dX8_init_43 : decode cX8_init 43 = .ok (.aload_n 0, 1) := by decide +kernel
theorem dX8_init_44 : decode cX8_init 44 = .ok (.new 35, 3) := by decide +kernel
theorem dX8_init_47 : decode cX8_init 47 = .ok (.dup, 1) := by decide +kernel
theorem dX8_init_48 : decode cX8_init 48 = .ok (.invokespecial 37, 3) := by decide +kernel
theorem dX8_init_51 : decode cX8_init 51 = .ok (.putfield 38, 3) := by decide +kernel
theorem dX8_init_54 : decode cX8_init 54 = .ok (.iconst 0, 1) := by decide +kernel
theorem dX8_init_55 : decode cX8_init 55 = .ok (.istore_n 1, 1) := by decide +kernel
theorem dX8_init_56 : decode cX8_init 56 = .ok (.iload_n 1, 1) := by decide +kernel
theorem dX8_init_57 : decode cX8_init 57 = .ok (.aload_n 0, 1) := by decide +kernel
theorem dX8_init_58 : decode cX8_init 58 = .ok (.getfield 11, 3) := by decide +kernel
theorem dX8_init_61 : decode cX8_init 61 = .ok (.arraylength, 1) := by decide +kernel
theorem dX8_init_62 : decode cX8_init 62 = .ok (.if_icmp .ge 22, 3) := by decide +kernel
theorem dX8_init_65 : decode cX8_init 65 = .ok (.aload_n 0, 1) := by decide +kernel
theorem dX8_init_66 : decode cX8_init 66 = .ok (.getfield 11, 3) := by decide +kernel
theorem dX8_init_69 : decode cX8_init 69 = .ok (.iload_n 1, 1) := by decide +kernel
theorem dX8_init_70 : decode cX8_init 70 = .ok (.new 9, 3) := by decide +kernel
theorem dX8_init_73 : decode cX8_init 73 = .ok (.dup, 1) := by decide +kernel
theorem dX8_init_74 : decode cX8_init 74 = .ok (.invokespecial 42, 3) := by decide +kernel
theorem dX8_init_77 : decode cX8_init 77 = .ok (.aastore, 1) := by decide +kernel
theorem dX8_init_78 : decode cX8_init 78 = .ok (.iinc 1 1, 3) := by decide +kernel
theorem dX8_init_81 : decode cX8_init 81 = .ok (.goto (-25), 3) := by decide +kernel
theorem dX8_init_84 : decode cX8_init 84 = .ok (.iconst 0, 1) := by decide +kernel
theorem dX8_init_85 : decode cX8_init 85 = .ok (.istore_n 1, 1) := by decide +kernel
theorem dX8_init_86 : decode cX8_init 86 = .ok (.iload_n 1, 1) := by decide +kernel
theorem dX8_init_87 : decode cX8_init 87 = .ok (.aload_n 0, 1) := by decide +kernel
theorem dX8_init_88 : decode cX8_init 88 = .ok (.getfield 17, 3) := by decide +kernel
theorem dX8_init_91 : decode cX8_init 91 = .ok (.arraylength, 1) := by decide +kernel
theorem dX8_init_92 : decode cX8_init 92 = .ok (.if_icmp .ge 23, 3) := by decide +kernel
theorem dX8_init_95 : decode cX8_init 95 = .ok (.aload_n 0, 1) := by decide +kernel
theorem dX8_init_96 : decode cX8_init 96 = .ok (.getfield 17, 3) := by decide +kernel
theorem dX8_init_99 : decode cX8_init 99 = .ok (.iload_n 1, 1) := by decide +kernel
theorem dX8_init_100 : decode cX8_init 100 = .ok (.new 15, 3) := by decide +kernel
theorem dX8_init_103 : decode cX8_init 103 = .ok (.dup, 1) := by decide +kernel
theorem dX8_init_104 : decode cX8_init 104 = .ok (.iload_n 1, 1) := by decide +kernel
theorem dX8_init_105 : decode cX8_init 105 = .ok (.invokespecial 43, 3) := by decide +kernel
theorem dX8_init_108 : decode cX8_init 108 = .ok (.aastore, 1) := by decide +kernel
theorem dX8_init_109 : decode cX8_init 109 = .ok (.iinc 1 1, 3) := by decide +kernel
theorem dX8_init_112 : decode cX8_init 112 = .ok (.goto (-26), 3) := by decide +kernel
theorem dX8_init_115 : decode cX8_init 115 = .ok (.aload_n 0, 1) := by decide +kernel
theorem dX8_init_116 : decode cX8_init 116 = .ok (.iconst 3, 1) := by decide +kernel
theorem dX8_init_117 : decode cX8_init 117 = .ok (.bipush 7, 2) := by decide +kernel
theorem dX8_init_119 : decode cX8_init 119 = .ok (.invokevirtual 46, 3) := by decide +kernel
theorem dX8_init_122 : decode cX8_init 122 = .ok (.return_, 1) := by decide +kernel
theorem dX8_begin_0 : decode cX8_begin 0 = .ok (.iload_n 1, 1) := by decide +kernel
theorem dX8_begin_1 : decode cX8_begin 1 = .ok (.iconst 3, 1) := by decide +kernel
theorem dX8_begin_2 : decode cX8_begin 2 = .ok (.if_icmp .lt 17, 3) := by decide +kernel
theorem dX8_begin_5 : decode cX8_begin 5 = .ok (.iload_n 1, 1) := by decide +kernel
theorem dX8_begin_6 : decode cX8_begin 6 = .ok (.bipush 7, 2) := by decide +kernel
theorem dX8_begin_8 : decode cX8_begin 8 = .ok (.if_icmp .gt 11, 3) := by decide +kernel
theorem dX8_begin_11 : decode cX8_begin 11 = .ok (.iload_n 1, 1) := by decide +kernel
theorem dX8_begin_12 : decode cX8_begin 12 = .ok (.iload_n 2, 1) := by decide +kernel
theorem dX8_begin_13 : decode cX8_begin 13 = .ok (.invokestatic 50, 3) := by decide +kernel
theorem dX8_begin_16 : decode cX8_begin 16 = .ok (.ifCond .ne 5, 3) := by decide +kernel
theorem dX8_begin_19 : decode cX8_begin 19 = .ok (.iconst 0, 1) := by decide +kernel
theorem dX8_begin_20 : decode cX8_begin 20 = .ok (.ireturn, 1) := by decide +kernel
theorem dX8_begin_21 : decode cX8_begin 21 = .ok (.aload_n 0, 1) := by decide +kernel
theorem dX8_begin_22 : decode cX8_begin 22 = .ok (.iload_n 1, 1) := by decide +kernel
theorem dX8_begin_23 : decode cX8_begin 23 = .ok (.iload_n 2, 1) := by decide +kernel
theorem dX8_begin_24 : decode cX8_begin 24 = .ok (.invokevirtual 46, 3) := by decide +kernel
theorem dX8_begin_27 : decode cX8_begin 27 = .ok (.iconst 1, 1) := by decide +kernel
theorem dX8_begin_28 : decode cX8_begin 28 = .ok (.ireturn, 1) := by decide +kernel
theorem dX8_read_0 : decode cX8_read 0 = .ok (.aload_n 0, 1) := by decide +kernel
theorem dX8_read_1 : decode cX8_read 1 = .ok (.iload_n 1, 1) := by decide +kernel
theorem dX8_read_2 : decode cX8_read 2 = .ok (.invokevirtual 54, 3) := by decide +kernel
theorem dX8_read_5 : decode cX8_read 5 = .ok (.ifCond .eq 26, 3) := by decide +kernel
theorem dX8_read_8 : decode cX8_read 8 = .ok (.iload_n 2, 1) := by decide +kernel
theorem dX8_read_9 : decode cX8_read 9 = .ok (.invokestatic 58, 3) := by decide +kernel
theorem dX8_read_12 : decode cX8_read 12 = .ok (.ifCond .eq 19, 3) := by decide +kernel
theorem dX8_read_15 : decode cX8_read 15 = .ok (.aload_n 0, 1) := by decide +kernel
theorem dX8_read_16 : decode cX8_read 16 = .ok (.aload_n 0, 1) := by decide +kernel
theorem dX8_read_17 : decode cX8_read 17 = .ok (.getfield 17, 3) := by decide +kernel
theorem dX8_read_20 : decode cX8_read 20 = .ok (.iload_n 1, 1) := by decide +kernel
theorem dX8_read_21 : decode cX8_read 21 = .ok (.aaload, 1) := by decide +kernel
theorem dX8_read_22 : decode cX8_read 22 = .ok (.iconst 0, 1) := by decide +kernel
theorem dX8_read_23 : decode cX8_read 23 = .ok (.iload_n 2, 1) := by decide +kernel
theorem dX8_read_24 : decode cX8_read 24 = .ok (.iconst 0, 1) := by decide +kernel
theorem dX8_read_25 : decode cX8_read 25 = .ok (.invokevirtual 61, 3) := by decide +kernel
theorem dX8_read_28 : decode cX8_read 28 = .ok (.goto 4, 3) := by decide +kernel
theorem dX8_read_31 : decode cX8_read 31 = .ok (.iconst (-1), 1) := by decide +kernel
theorem dX8_read_32 : decode cX8_read 32 = .ok (.ireturn, 1) := by decide +kernel
theorem dX8_write_0 : decode cX8_write 0 = .ok (.aload_n 0, 1) := by decide +kernel
theorem dX8_write_1 : decode cX8_write 1 = .ok (.iload_n 1, 1) := by decide +kernel
theorem dX8_write_2 : decode cX8_write 2 = .ok (.invokevirtual 54, 3) := by decide +kernel
theorem dX8_write_5 : decode cX8_write 5 = .ok (.ifCond .eq 26, 3) := by decide +kernel
theorem dX8_write_8 : decode cX8_write 8 = .ok (.iload_n 2, 1) := by decide +kernel
theorem dX8_write_9 : decode cX8_write 9 = .ok (.invokestatic 58, 3) := by decide +kernel
theorem dX8_write_12 : decode cX8_write 12 = .ok (.ifCond .eq 19, 3) := by decide +kernel
theorem dX8_write_15 : decode cX8_write 15 = .ok (.aload_n 0, 1) := by decide +kernel
theorem dX8_write_16 : decode cX8_write 16 = .ok (.aload_n 0, 1) := by decide +kernel
theorem dX8_write_17 : decode cX8_write 17 = .ok (.getfield 17, 3) := by decide +kernel
theorem dX8_write_20 : decode cX8_write 20 = .ok (.iload_n 1, 1) := by decide +kernel
theorem dX8_write_21 : decode cX8_write 21 = .ok (.aaload, 1) := by decide +kernel
theorem dX8_write_22 : decode cX8_write 22 = .ok (.iconst 1, 1) := by decide +kernel
theorem dX8_write_23 : decode cX8_write 23 = .ok (.iload_n 2, 1) := by decide +kernel
theorem dX8_write_24 : decode cX8_write 24 = .ok (.iload_n 3, 1) := by decide +kernel
theorem dX8_write_25 : decode cX8_write 25 = .ok (.invokevirtual 61, 3) := by decide +kernel
theorem dX8_write_28 : decode cX8_write 28 = .ok (.goto 4, 3) := by decide +kernel
theorem dX8_write_31 : decode cX8_write 31 = .ok (.iconst (-1), 1) := by decide +kernel
theorem dX8_write_32 : decode cX8_write 32 = .ok (.ireturn, 1) := by decide +kernel
theorem dX8_change_0 : decode cX8_change 0 = .ok (.aload_n 0, 1) := by decide +kernel
theorem dX8_change_1 : decode cX8_change 1 = .ok (.iload_n 1, 1) := by decide +kernel
theorem dX8_change_2 : decode cX8_change 2 = .ok (.invokevirtual 54, 3) := by decide +kernel
theorem dX8_change_5 : decode cX8_change 5 = .ok (.ifCond .eq 14, 3) := by decide +kernel
theorem dX8_change_8 : decode cX8_change 8 = .ok (.aload_n 0, 1) := by decide +kernel
theorem dX8_change_9 : decode cX8_change 9 = .ok (.getfield 65, 3) := by decide +kernel
theorem dX8_change_12 : decode cX8_change 12 = .ok (.iload_n 2, 1) := by decide +kernel
theorem dX8_change_13 : decode cX8_change 13 = .ok (.invokestatic 50, 3) := by decide +kernel
theorem dX8_change_16 : decode cX8_change 16 = .ok (.ifCond .ne 5, 3) := by decide +kernel
theorem dX8_change_19 : decode cX8_change 19 = .ok (.iconst (-1), 1) := by decide +kernel
theorem dX8_change_20 : decode cX8_change 20 = .ok (.ireturn, 1) := by decide +kernel
theorem dX8_change_21 : decode cX8_change 21 = .ok (.aload_n 0, 1) := by decide +kernel
theorem dX8_change_22 : decode cX8_change 22 = .ok (.getfield 17, 3) := by decide +kernel
theorem dX8_change_25 : decode cX8_change 25 = .ok (.iload_n 1, 1) := by decide +kernel
theorem dX8_change_26 : decode cX8_change 26 = .ok (.aaload, 1) := by decide +kernel
theorem dX8_change_27 : decode cX8_change 27 = .ok (.astore_n 3, 1) := by decide +kernel
theorem dX8_change_28 : decode cX8_change 28 = .ok (.aload_n 3, 1) := by decide +kernel
theorem dX8_change_29 : decode cX8_change 29 = .ok (.getfield 69, 3) := by decide +kernel
theorem dX8_change_32 : decode cX8_change 32 = .ok (.invokevirtual 73, 3) := by decide +kernel
theorem dX8_change_35 : decode cX8_change 35 = .ok (.istore 4, 2) := by decide +kernel
theorem dX8_change_37 : decode cX8_change 37 = .ok (.iload 4, 2) := by decide +kernel
theorem dX8_change_39 : decode cX8_change 39 = .ok (.iconst 5, 1) := by decide +kernel
theorem dX8_change_40 : decode cX8_change 40 = .ok (.if_icmp .lt 5, 3) := by decide +kernel
theorem dX8_change_43 : decode cX8_change 43 = .ok (.iconst (-1), 1) := by decide +kernel
theorem dX8_change_44 : decode cX8_change 44 = .ok (.ireturn, 1) := by decide +kernel
theorem dX8_change_45 : decode cX8_change 45 = .ok (.aload_n 3, 1) := by decide +kernel
theorem dX8_change_46 : decode cX8_change 46 = .ok (.iload 4, 2) := by decide +kernel
theorem dX8_change_48 : decode cX8_change 48 = .ok (.aload_n 3, 1) := by decide +kernel
theorem dX8_change_49 : decode cX8_change 49 = .ok (.getfield 69, 3) := by decide +kernel
theorem dX8_change_52 : decode cX8_change 52 = .ok (.iload 4, 2) := by decide +kernel
theorem dX8_change_54 : decode cX8_change 54 = .ok (.invokevirtual 79, 3) := by decide +kernel
theorem dX8_change_57 : decode cX8_change 57 = .ok (.iload_n 2, 1) := by decide +kernel
theorem dX8_change_58 : decode cX8_change 58 = .ok (.invokevirtual 83, 3) := by decide +kernel
theorem dX8_change_61 : decode cX8_change 61 = .ok (.aload_n 0, 1) := by decide +kernel
theorem dX8_change_62 : decode cX8_change 62 = .ok (.aload_n 3, 1) := by decide +kernel
theorem dX8_change_63 : decode cX8_change 63 = .ok (.iconst 2, 1) := by decide +kernel
theorem dX8_change_64 : decode cX8_change 64 = .ok (.iload_n 2, 1) := by decide +kernel
theorem dX8_change_65 : decode cX8_change 65 = .ok (.iconst 0, 1) := by decide +kernel
theorem dX8_change_66 : decode cX8_change 66 = .ok (.invokevirtual 61, 3) := by decide +kernel
theorem dX8_change_69 : decode cX8_change 69 = .ok (.ireturn, 1) := by decide +kernel
theorem dX8_move_0 : decode cX8_move 0 = .ok (.aload_n 0, 1) := by decide +kernel
theorem dX8_move_1 : decode cX8_move 1 = .ok (.iload_n 1, 1) := by decide +kernel
theorem dX8_move_2 : decode cX8_move 2 = .ok (.invokevirtual 54, 3) := by decide +kernel
theorem dX8_move_5 : decode cX8_move 5 = .ok (.ifCond .ne 5, 3) := by decide +kernel
theorem dX8_move_8 : decode cX8_move 8 = .ok (.iconst (-1), 1) := by decide +kernel
theorem dX8_move_9 : decode cX8_move 9 = .ok (.ireturn, 1) := by decide +kernel
theorem dX8_move_10 : decode cX8_move 10 = .ok (.aload_n 0, 1) := by decide +kernel
theorem dX8_move_11 : decode cX8_move 11 = .ok (.getfield 17, 3) := by decide +kernel
theorem dX8_move_14 : decode cX8_move 14 = .ok (.iload_n 1, 1) := by decide +kernel
theorem dX8_move_15 : decode cX8_move 15 = .ok (.aaload, 1) := by decide +kernel
theorem dX8_move_16 : decode cX8_move 16 = .ok (.astore_n 2, 1) := by decide +kernel
theorem dX8_move_17 : decode cX8_move 17 = .ok (.aload_n 2, 1) := by decide +kernel
theorem dX8_move_18 : decode cX8_move 18 = .ok (.getfield 69, 3) := by decide +kernel
theorem dX8_move_21 : decode cX8_move 21 = .ok (.invokevirtual 87, 3) := by decide +kernel
theorem dX8_move_24 : decode cX8_move 24 = .ok (.istore_n 3, 1) := by decide +kernel
theorem dX8_move_25 : decode cX8_move 25 = .ok (.iload_n 3, 1) := by decide +kernel
theorem dX8_move_26 : decode cX8_move 26 = .ok (.iconst (-1), 1) := by decide +kernel
theorem dX8_move_27 : decode cX8_move 27 = .ok (.if_icmp .eq 19, 3) := by decide +kernel
theorem dX8_move_30 : decode cX8_move 30 = .ok (.aload_n 2, 1) := by decide +kernel
theorem dX8_move_31 : decode cX8_move 31 = .ok (.getfield 69, 3) := by decide +kernel
theorem dX8_move_34 : decode cX8_move 34 = .ok (.iload_n 3, 1) := by decide +kernel
theorem dX8_move_35 : decode cX8_move 35 = .ok (.iconst 1, 1) := by decide +kernel
theorem dX8_move_36 : decode cX8_move 36 = .ok (.iadd, 1) := by decide +kernel
theorem dX8_move_37 : decode cX8_move 37 = .ok (.invokevirtual 79, 3) := by decide +kernel
theorem dX8_move_40 : decode cX8_move 40 = .ok (.invokestatic 90, 3) := by decide +kernel
theorem dX8_move_43 : decode cX8_move 43 = .ok (.ifCond .ne 5, 3) := by decide +kernel
theorem dX8_move_46 : decode cX8_move 46 = .ok (.iconst (-1), 1) := by decide +kernel
theorem dX8_move_47 : decode cX8_move 47 = .ok (.ireturn, 1) := by decide +kernel
theorem dX8_move_48 : decode cX8_move 48 = .ok (.aload_n 2, 1) := by decide +kernel
theorem dX8_move_49 : decode cX8_move 49 = .ok (.iload_n 3, 1) := by decide +kernel
theorem dX8_move_50 : decode cX8_move 50 = .ok (.aload_n 2, 1) := by decide +kernel
theorem dX8_move_51 : decode cX8_move 51 = .ok (.getfield 69, 3) := by decide +kernel
theorem dX8_move_54 : decode cX8_move 54 = .ok (.iload_n 3, 1) := by decide +kernel
theorem dX8_move_55 : decode cX8_move 55 = .ok (.invokevirtual 79, 3) := by decide +kernel
theorem dX8_move_58 : decode cX8_move 58 = .ok (.aload_n 2, 1) := by decide +kernel
theorem dX8_move_59 : decode cX8_move 59 = .ok (.getfield 69, 3) := by decide +kernel
theorem dX8_move_62 : decode cX8_move 62 = .ok (.iload_n 3, 1) := by decide +kernel
theorem dX8_move_63 : decode cX8_move 63 = .ok (.iconst 1, 1) := by decide +kernel
theorem dX8_move_64 : decode cX8_move 64 = .ok (.iadd, 1) := by decide +kernel
theorem dX8_move_65 : decode cX8_move 65 = .ok (.invokevirtual 79, 3) := by decide +kernel
theorem dX8_move_68 : decode cX8_move 68 = .ok (.invokevirtual 83, 3) := by decide +kernel
theorem dX8_move_71 : decode cX8_move 71 = .ok (.aload_n 0, 1) := by decide +kernel
theorem dX8_move_72 : decode cX8_move 72 = .ok (.aload_n 2, 1) := by decide +kernel
theorem dX8_move_73 : decode cX8_move 73 = .ok (.iconst 3, 1) := by decide +kernel
theorem dX8_move_74 : decode cX8_move 74 = .ok (.iload_n 3, 1) := by decide +kernel
theorem dX8_move_75 : decode cX8_move 75 = .ok (.iconst 0, 1) := by decide +kernel
theorem dX8_move_76 : decode cX8_move 76 = .ok (.invokevirtual 61, 3) := by decide +kernel
theorem dX8_move_79 : decode cX8_move 79 = .ok (.ireturn, 1) := by decide +kernel
theorem dX8_bag_0 : decode cX8_bag 0 = .ok (.aload_n 0, 1) := by decide +kernel
theorem dX8_bag_1 : decode cX8_bag 1 = .ok (.getfield 24, 3) := by decide +kernel
theorem dX8_bag_4 : decode cX8_bag 4 = .ok (.invokevirtual 93, 3) := by decide +kernel
theorem dX8_bag_7 : decode cX8_bag 7 = .ok (.ireturn, 1) := by decide +kernel
theorem dX8_message_0 : decode cX8_message 0 = .ok (.aload_n 0, 1) := by decide +kernel
theorem dX8_message_1 : decode cX8_message 1 = .ok (.getfield 24, 3) := by decide +kernel
theorem dX8_message_4 : decode cX8_message 4 = .ok (.iload_n 1, 1) := by decide +kernel
theorem dX8_message_5 : decode cX8_message 5 = .ok (.invokevirtual 96, 3) := by decide +kernel
theorem dX8_message_8 : decode cX8_message 8 = .ok (.ifCond .ne 6, 3) := by decide +kernel
theorem dX8_message_11 : decode cX8_message 11 = .ok (.bipush (-2), 2) := by decide +kernel
theorem dX8_message_13 : decode cX8_message 13 = .ok (.ireturn, 1) := by decide +kernel
theorem dX8_message_14 : decode cX8_message 14 = .ok (.aload_n 0, 1) := by decide +kernel
theorem dX8_message_15 : decode cX8_message 15 = .ok (.getfield 24, 3) := by decide +kernel
theorem dX8_message_18 : decode cX8_message 18 = .ok (.iload_n 1, 1) := by decide +kernel
theorem dX8_message_19 : decode cX8_message 19 = .ok (.invokevirtual 99, 3) := by decide +kernel
theorem dX8_message_22 : decode cX8_message 22 = .ok (.astore_n 3, 1) := by decide +kernel
theorem dX8_message_23 : decode cX8_message 23 = .ok (.iload_n 2, 1) := by decide +kernel
theorem dX8_message_24 : decode cX8_message 24 = .ok (.tableswitch 100 0 7 #[48, 53, 58, 63, 68, 73, 80, 87], 48) := by decide +kernel
theorem dX8_message_72 : decode cX8_message 72 = .ok (.aload_n 3, 1) := by decide +kernel
theorem dX8_message_73 : decode cX8_message 73 = .ok (.getfield 103, 3) := by decide +kernel
theorem dX8_message_76 : decode cX8_message 76 = .ok (.ireturn, 1) := by decide +kernel
theorem dX8_message_77 : decode cX8_message 77 = .ok (.aload_n 3, 1) := by decide +kernel
theorem dX8_message_78 : decode cX8_message 78 = .ok (.getfield 108, 3) := by decide +kernel
theorem dX8_message_81 : decode cX8_message 81 = .ok (.ireturn, 1) := by decide +kernel
theorem dX8_message_82 : decode cX8_message 82 = .ok (.aload_n 3, 1) := by decide +kernel
theorem dX8_message_83 : decode cX8_message 83 = .ok (.getfield 111, 3) := by decide +kernel
theorem dX8_message_86 : decode cX8_message 86 = .ok (.ireturn, 1) := by decide +kernel
theorem dX8_message_87 : decode cX8_message 87 = .ok (.aload_n 3, 1) := by decide +kernel
theorem dX8_message_88 : decode cX8_message 88 = .ok (.getfield 114, 3) := by decide +kernel
theorem dX8_message_91 : decode cX8_message 91 = .ok (.ireturn, 1) := by decide +kernel
theorem dX8_message_92 : decode cX8_message 92 = .ok (.aload_n 3, 1) := by decide +kernel
theorem dX8_message_93 : decode cX8_message 93 = .ok (.getfield 117, 3) := by decide +kernel
theorem dX8_message_96 : decode cX8_message 96 = .ok (.ireturn, 1) := by decide +kernel
theorem dX8_message_97 : decode cX8_message 97 = .ok (.aload_n 3, 1) := by decide +kernel
theorem dX8_message_98 : decode cX8_message 98 = .ok (.getfield 120, 3) := by decide +kernel
theorem dX8_message_101 : decode cX8_message 101 = .ok (.iconst 0, 1) := by decide +kernel
theorem dX8_message_102 : decode cX8_message 102 = .ok (.iaload, 1) := by decide +kernel
theorem dX8_message_103 : decode cX8_message 103 = .ok (.ireturn, 1) := by decide +kernel
theorem dX8_message_104 : decode cX8_message 104 = .ok (.aload_n 3, 1) := by decide +kernel
theorem dX8_message_105 : decode cX8_message 105 = .ok (.getfield 124, 3) := by decide +kernel
theorem dX8_message_108 : decode cX8_message 108 = .ok (.iconst 0, 1) := by decide +kernel
theorem dX8_message_109 : decode cX8_message 109 = .ok (.iaload, 1) := by decide +kernel
theorem dX8_message_110 : decode cX8_message 110 = .ok (.ireturn, 1) := by decide +kernel
theorem dX8_message_111 : decode cX8_message 111 = .ok (.aload_n 3, 1) := by decide +kernel
theorem dX8_message_112 : decode cX8_message 112 = .ok (.getfield 127, 3) := by decide +kernel
theorem dX8_message_115 : decode cX8_message 115 = .ok (.ifCond .eq 7, 3) := by decide +kernel
theorem dX8_message_118 : decode cX8_message 118 = .ok (.iconst 1, 1) := by decide +kernel
theorem dX8_message_119 : decode cX8_message 119 = .ok (.goto 4, 3) := by decide +kernel
theorem dX8_message_122 : decode cX8_message 122 = .ok (.iconst 0, 1) := by decide +kernel
theorem dX8_message_123 : decode cX8_message 123 = .ok (.ireturn, 1) := by decide +kernel
theorem dX8_message_124 : decode cX8_message 124 = .ok (.aload_n 3, 1) := by decide +kernel
theorem dX8_message_125 : decode cX8_message 125 = .ok (.getfield 131, 3) := by decide +kernel
theorem dX8_message_128 : decode cX8_message 128 = .ok (.iload_n 2, 1) := by decide +kernel
theorem dX8_message_129 : decode cX8_message 129 = .ok (.bipush 8, 2) := by decide +kernel
theorem dX8_message_131 : decode cX8_message 131 = .ok (.isub, 1) := by decide +kernel
theorem dX8_message_132 : decode cX8_message 132 = .ok (.invokestatic 132, 3) := by decide +kernel
theorem dX8_message_135 : decode cX8_message 135 = .ok (.ireturn, 1) := by decide +kernel
theorem dX8_deliver_0 : decode cX8_deliver 0 = .ok (.aload_n 0, 1) := by decide +kernel
theorem dX8_deliver_1 : decode cX8_deliver 1 = .ok (.getfield 24, 3) := by decide +kernel
theorem dX8_deliver_4 : decode cX8_deliver 4 = .ok (.iload_n 1, 1) := by decide +kernel
theorem dX8_deliver_5 : decode cX8_deliver 5 = .ok (.invokevirtual 96, 3) := by decide +kernel
theorem dX8_deliver_8 : decode cX8_deliver 8 = .ok (.ifCond .ne 5, 3) := by decide +kernel
theorem dX8_deliver_11 : decode cX8_deliver 11 = .ok (.iconst (-1), 1) := by decide +kernel
theorem dX8_deliver_12 : decode cX8_deliver 12 = .ok (.ireturn, 1) := by decide +kernel
theorem dX8_deliver_13 : decode cX8_deliver 13 = .ok (.aload_n 0, 1) := by decide +kernel
theorem dX8_deliver_14 : decode cX8_deliver 14 = .ok (.iload_n 1, 1) := by decide +kernel
theorem dX8_deliver_15 : decode cX8_deliver 15 = .ok (.invokevirtual 136, 3) := by decide +kernel
theorem dX8_deliver_18 : decode cX8_deliver 18 = .ok (.ifCond .eq 7, 3) := by decide +kernel
theorem dX8_deliver_21 : decode cX8_deliver 21 = .ok (.iconst 1, 1) := by decide +kernel
theorem dX8_deliver_22 : decode cX8_deliver 22 = .ok (.goto 4, 3) := by decide +kernel
theorem dX8_deliver_25 : decode cX8_deliver 25 = .ok (.iconst 0, 1) := by decide +kernel
theorem dX8_deliver_26 : decode cX8_deliver 26 = .ok (.ireturn, 1) := by decide +kernel
theorem dX8_lose_0 : decode cX8_lose 0 = .ok (.aload_n 0, 1) := by decide +kernel
theorem dX8_lose_1 : decode cX8_lose 1 = .ok (.getfield 24, 3) := by decide +kernel
theorem dX8_lose_4 : decode cX8_lose 4 = .ok (.iload_n 1, 1) := by decide +kernel
theorem dX8_lose_5 : decode cX8_lose 5 = .ok (.invokevirtual 96, 3) := by decide +kernel
theorem dX8_lose_8 : decode cX8_lose 8 = .ok (.ifCond .ne 5, 3) := by decide +kernel
theorem dX8_lose_11 : decode cX8_lose 11 = .ok (.iconst 0, 1) := by decide +kernel
theorem dX8_lose_12 : decode cX8_lose 12 = .ok (.ireturn, 1) := by decide +kernel
theorem dX8_lose_13 : decode cX8_lose 13 = .ok (.aload_n 0, 1) := by decide +kernel
theorem dX8_lose_14 : decode cX8_lose 14 = .ok (.getfield 24, 3) := by decide +kernel
theorem dX8_lose_17 : decode cX8_lose 17 = .ok (.aload_n 0, 1) := by decide +kernel
theorem dX8_lose_18 : decode cX8_lose 18 = .ok (.getfield 24, 3) := by decide +kernel
theorem dX8_lose_21 : decode cX8_lose 21 = .ok (.iload_n 1, 1) := by decide +kernel
theorem dX8_lose_22 : decode cX8_lose 22 = .ok (.invokevirtual 139, 3) := by decide +kernel
theorem dX8_lose_25 : decode cX8_lose 25 = .ok (.invokevirtual 142, 3) := by decide +kernel
theorem dX8_lose_28 : decode cX8_lose 28 = .ok (.iconst 1, 1) := by decide +kernel
theorem dX8_lose_29 : decode cX8_lose 29 = .ok (.ireturn, 1) := by decide +kernel
theorem dX8_run_0 : decode cX8_run 0 = .ok (.iload_n 2, 1) := by decide +kernel
theorem dX8_run_1 : decode cX8_run 1 = .ok (.ifCond .lt 10, 3) := by decide +kernel
theorem dX8_run_4 : decode cX8_run 4 = .ok (.iload_n 2, 1) := by decide +kernel
theorem dX8_run_5 : decode cX8_run 5 = .ok (.sipush 1000, 3) := by decide +kernel
theorem dX8_run_8 : decode cX8_run 8 = .ok (.if_icmp .le 5, 3) := by decide +kernel
theorem dX8_run_11 : decode cX8_run 11 = .ok (.iconst (-1), 1) := by decide +kernel
theorem dX8_run_12 : decode cX8_run 12 = .ok (.ireturn, 1) := by decide +kernel
theorem dX8_run_13 : decode cX8_run 13 = .ok (.iload_n 1, 1) := by decide +kernel
theorem dX8_run_14 : decode cX8_run 14 = .ok (.istore_n 3, 1) := by decide +kernel
theorem dX8_run_15 : decode cX8_run 15 = .ok (.iconst 0, 1) := by decide +kernel
theorem dX8_run_16 : decode cX8_run 16 = .ok (.istore 4, 2) := by decide +kernel
theorem dX8_run_18 : decode cX8_run 18 = .ok (.iload 4, 2) := by decide +kernel
theorem dX8_run_20 : decode cX8_run 20 = .ok (.iload_n 2, 1) := by decide +kernel
theorem dX8_run_21 : decode cX8_run 21 = .ok (.if_icmp .ge 45, 3) := by decide +kernel
theorem dX8_run_24 : decode cX8_run 24 = .ok (.aload_n 0, 1) := by decide +kernel
theorem dX8_run_25 : decode cX8_run 25 = .ok (.getfield 24, 3) := by decide +kernel
theorem dX8_run_28 : decode cX8_run 28 = .ok (.invokevirtual 93, 3) := by decide +kernel
theorem dX8_run_31 : decode cX8_run 31 = .ok (.ifCond .le 35, 3) := by decide +kernel
theorem dX8_run_34 : decode cX8_run 34 = .ok (.iload_n 3, 1) := by decide +kernel
theorem dX8_run_35 : decode cX8_run 35 = .ok (.ldc 146, 2) := by decide +kernel
theorem dX8_run_37 : decode cX8_run 37 = .ok (.imul, 1) := by decide +kernel
theorem dX8_run_38 : decode cX8_run 38 = .ok (.sipush 12345, 3) := by decide +kernel
theorem dX8_run_41 : decode cX8_run 41 = .ok (.iadd, 1) := by decide +kernel
theorem dX8_run_42 : decode cX8_run 42 = .ok (.istore_n 3, 1) := by decide +kernel
theorem dX8_run_43 : decode cX8_run 43 = .ok (.aload_n 0, 1) := by decide +kernel
theorem dX8_run_44 : decode cX8_run 44 = .ok (.iload_n 3, 1) := by decide +kernel
theorem dX8_run_45 : decode cX8_run 45 = .ok (.bipush 16, 2) := by decide +kernel
theorem dX8_run_47 : decode cX8_run 47 = .ok (.iushr, 1) := by decide +kernel
theorem dX8_run_48 : decode cX8_run 48 = .ok (.aload_n 0, 1) := by decide +kernel
theorem dX8_run_49 : decode cX8_run 49 = .ok (.getfield 24, 3) := by decide +kernel
theorem dX8_run_52 : decode cX8_run 52 = .ok (.invokevirtual 93, 3) := by decide +kernel
theorem dX8_run_55 : decode cX8_run 55 = .ok (.irem, 1) := by decide +kernel
theorem dX8_run_56 : decode cX8_run 56 = .ok (.invokevirtual 136, 3) := by decide +kernel
theorem dX8_run_59 : decode cX8_run 59 = .ok (.pop, 1) := by decide +kernel
theorem dX8_run_60 : decode cX8_run 60 = .ok (.iinc 4 1, 3) := by decide +kernel
theorem dX8_run_63 : decode cX8_run 63 = .ok (.goto (-45), 3) := by decide +kernel
theorem dX8_run_66 : decode cX8_run 66 = .ok (.iload 4, 2) := by decide +kernel
theorem dX8_run_68 : decode cX8_run 68 = .ok (.ireturn, 1) := by decide +kernel
theorem dX8_stop_0 : decode cX8_stop 0 = .ok (.iload_n 1, 1) := by decide +kernel
theorem dX8_stop_1 : decode cX8_stop 1 = .ok (.ifCond .eq 36, 3) := by decide +kernel
theorem dX8_stop_4 : decode cX8_stop 4 = .ok (.iload_n 2, 1) := by decide +kernel
theorem dX8_stop_5 : decode cX8_stop 5 = .ok (.invokestatic 147, 3) := by decide +kernel
theorem dX8_stop_8 : decode cX8_stop 8 = .ok (.ifCond .eq 15, 3) := by decide +kernel
theorem dX8_stop_11 : decode cX8_stop 11 = .ok (.aload_n 0, 1) := by decide +kernel
theorem dX8_stop_12 : decode cX8_stop 12 = .ok (.getfield 17, 3) := by decide +kernel
theorem dX8_stop_15 : decode cX8_stop 15 = .ok (.iload_n 2, 1) := by decide +kernel
theorem dX8_stop_16 : decode cX8_stop 16 = .ok (.aaload, 1) := by decide +kernel
theorem dX8_stop_17 : decode cX8_stop 17 = .ok (.getfield 150, 3) := by decide +kernel
theorem dX8_stop_20 : decode cX8_stop 20 = .ok (.ifCond .eq 5, 3) := by decide +kernel
theorem dX8_stop_23 : decode cX8_stop 23 = .ok (.iconst 0, 1) := by decide +kernel
theorem dX8_stop_24 : decode cX8_stop 24 = .ok (.ireturn, 1) := by decide +kernel
theorem dX8_stop_25 : decode cX8_stop 25 = .ok (.aload_n 0, 1) := by decide +kernel
theorem dX8_stop_26 : decode cX8_stop 26 = .ok (.getfield 17, 3) := by decide +kernel
theorem dX8_stop_29 : decode cX8_stop 29 = .ok (.iload_n 2, 1) := by decide +kernel
theorem dX8_stop_30 : decode cX8_stop 30 = .ok (.aaload, 1) := by decide +kernel
theorem dX8_stop_31 : decode cX8_stop 31 = .ok (.iconst 1, 1) := by decide +kernel
theorem dX8_stop_32 : decode cX8_stop 32 = .ok (.putfield 150, 3) := by decide +kernel
theorem dX8_stop_35 : decode cX8_stop 35 = .ok (.iconst 1, 1) := by decide +kernel
theorem dX8_stop_36 : decode cX8_stop 36 = .ok (.ireturn, 1) := by decide +kernel
theorem dX8_stop_37 : decode cX8_stop 37 = .ok (.aload_n 0, 1) := by decide +kernel
theorem dX8_stop_38 : decode cX8_stop 38 = .ok (.iload_n 2, 1) := by decide +kernel
theorem dX8_stop_39 : decode cX8_stop 39 = .ok (.invokevirtual 153, 3) := by decide +kernel
theorem dX8_stop_42 : decode cX8_stop 42 = .ok (.ifCond .eq 15, 3) := by decide +kernel
theorem dX8_stop_45 : decode cX8_stop 45 = .ok (.aload_n 0, 1) := by decide +kernel
theorem dX8_stop_46 : decode cX8_stop 46 = .ok (.getfield 11, 3) := by decide +kernel
theorem dX8_stop_49 : decode cX8_stop 49 = .ok (.iload_n 2, 1) := by decide +kernel
theorem dX8_stop_50 : decode cX8_stop 50 = .ok (.aaload, 1) := by decide +kernel
theorem dX8_stop_51 : decode cX8_stop 51 = .ok (.getfield 156, 3) := by decide +kernel
theorem dX8_stop_54 : decode cX8_stop 54 = .ok (.ifCond .eq 5, 3) := by decide +kernel
theorem dX8_stop_57 : decode cX8_stop 57 = .ok (.iconst 0, 1) := by decide +kernel
theorem dX8_stop_58 : decode cX8_stop 58 = .ok (.ireturn, 1) := by decide +kernel
theorem dX8_stop_59 : decode cX8_stop 59 = .ok (.aload_n 0, 1) := by decide +kernel
theorem dX8_stop_60 : decode cX8_stop 60 = .ok (.getfield 11, 3) := by decide +kernel
theorem dX8_stop_63 : decode cX8_stop 63 = .ok (.iload_n 2, 1) := by decide +kernel
theorem dX8_stop_64 : decode cX8_stop 64 = .ok (.aaload, 1) := by decide +kernel
theorem dX8_stop_65 : decode cX8_stop 65 = .ok (.iconst 1, 1) := by decide +kernel
theorem dX8_stop_66 : decode cX8_stop 66 = .ok (.putfield 156, 3) := by decide +kernel
theorem dX8_stop_69 : decode cX8_stop 69 = .ok (.iconst 1, 1) := by decide +kernel
theorem dX8_stop_70 : decode cX8_stop 70 = .ok (.ireturn, 1) := by decide +kernel
theorem dX8_map_0 : decode cX8_map 0 = .ok (.iload_n 1, 1) := by decide +kernel
theorem dX8_map_1 : decode cX8_map 1 = .ok (.ifCond .eq 29, 3) := by decide +kernel
theorem dX8_map_4 : decode cX8_map 4 = .ok (.iload_n 2, 1) := by decide +kernel
theorem dX8_map_5 : decode cX8_map 5 = .ok (.invokestatic 147, 3) := by decide +kernel
theorem dX8_map_8 : decode cX8_map 8 = .ok (.ifCond .eq 19, 3) := by decide +kernel
theorem dX8_map_11 : decode cX8_map 11 = .ok (.aload_n 0, 1) := by decide +kernel
theorem dX8_map_12 : decode cX8_map 12 = .ok (.getfield 17, 3) := by decide +kernel
theorem dX8_map_15 : decode cX8_map 15 = .ok (.iload_n 2, 1) := by decide +kernel
theorem dX8_map_16 : decode cX8_map 16 = .ok (.aaload, 1) := by decide +kernel
theorem dX8_map_17 : decode cX8_map 17 = .ok (.getfield 69, 3) := by decide +kernel
theorem dX8_map_20 : decode cX8_map 20 = .ok (.iload_n 3, 1) := by decide +kernel
theorem dX8_map_21 : decode cX8_map 21 = .ok (.invokestatic 132, 3) := by decide +kernel
theorem dX8_map_24 : decode cX8_map 24 = .ok (.goto 5, 3) := by decide +kernel
theorem dX8_map_27 : decode cX8_map 27 = .ok (.bipush (-2), 2) := by decide +kernel
theorem dX8_map_29 : decode cX8_map 29 = .ok (.ireturn, 1) := by decide +kernel
theorem dX8_map_30 : decode cX8_map 30 = .ok (.aload_n 0, 1) := by decide +kernel
theorem dX8_map_31 : decode cX8_map 31 = .ok (.iload_n 2, 1) := by decide +kernel
theorem dX8_map_32 : decode cX8_map 32 = .ok (.invokevirtual 153, 3) := by decide +kernel
theorem dX8_map_35 : decode cX8_map 35 = .ok (.ifCond .eq 19, 3) := by decide +kernel
theorem dX8_map_38 : decode cX8_map 38 = .ok (.aload_n 0, 1) := by decide +kernel
theorem dX8_map_39 : decode cX8_map 39 = .ok (.getfield 11, 3) := by decide +kernel
theorem dX8_map_42 : decode cX8_map 42 = .ok (.iload_n 2, 1) := by decide +kernel
theorem dX8_map_43 : decode cX8_map 43 = .ok (.aaload, 1) := by decide +kernel
theorem dX8_map_44 : decode cX8_map 44 = .ok (.getfield 157, 3) := by decide +kernel
theorem dX8_map_47 : decode cX8_map 47 = .ok (.iload_n 3, 1) := by decide +kernel
theorem dX8_map_48 : decode cX8_map 48 = .ok (.invokestatic 132, 3) := by decide +kernel
theorem dX8_map_51 : decode cX8_map 51 = .ok (.goto 5, 3) := by decide +kernel
theorem dX8_map_54 : decode cX8_map 54 = .ok (.bipush (-2), 2) := by decide +kernel
theorem dX8_map_56 : decode cX8_map 56 = .ok (.ireturn, 1) := by decide +kernel
theorem dX8_cell_0 : decode cX8_cell 0 = .ok (.aload_n 0, 1) := by decide +kernel
theorem dX8_cell_1 : decode cX8_cell 1 = .ok (.iload_n 1, 1) := by decide +kernel
theorem dX8_cell_2 : decode cX8_cell 2 = .ok (.invokevirtual 153, 3) := by decide +kernel
theorem dX8_cell_5 : decode cX8_cell 5 = .ok (.ifCond .eq 10, 3) := by decide +kernel
theorem dX8_cell_8 : decode cX8_cell 8 = .ok (.iload_n 2, 1) := by decide +kernel
theorem dX8_cell_9 : decode cX8_cell 9 = .ok (.invokestatic 58, 3) := by decide +kernel
theorem dX8_cell_12 : decode cX8_cell 12 = .ok (.ifCond .ne 5, 3) := by decide +kernel
theorem dX8_cell_15 : decode cX8_cell 15 = .ok (.iconst 0, 1) := by decide +kernel
theorem dX8_cell_16 : decode cX8_cell 16 = .ok (.ireturn, 1) := by decide +kernel
theorem dX8_cell_17 : decode cX8_cell 17 = .ok (.iload_n 3, 1) := by decide +kernel
theorem dX8_cell_18 : decode cX8_cell 18 = .ok (.lookupswitch 50 #[(0, 26), (1, 38)], 26) := by decide +kernel
theorem dX8_cell_44 : decode cX8_cell 44 = .ok (.aload_n 0, 1) := by decide +kernel
theorem dX8_cell_45 : decode cX8_cell 45 = .ok (.getfield 11, 3) := by decide +kernel
theorem dX8_cell_48 : decode cX8_cell 48 = .ok (.iload_n 1, 1) := by decide +kernel
theorem dX8_cell_49 : decode cX8_cell 49 = .ok (.aaload, 1) := by decide +kernel
theorem dX8_cell_50 : decode cX8_cell 50 = .ok (.getfield 158, 3) := by decide +kernel
theorem dX8_cell_53 : decode cX8_cell 53 = .ok (.iload_n 2, 1) := by decide +kernel
theorem dX8_cell_54 : decode cX8_cell 54 = .ok (.iaload, 1) := by decide +kernel
theorem dX8_cell_55 : decode cX8_cell 55 = .ok (.ireturn, 1) := by decide +kernel
theorem dX8_cell_56 : decode cX8_cell 56 = .ok (.aload_n 0, 1) := by decide +kernel
theorem dX8_cell_57 : decode cX8_cell 57 = .ok (.getfield 11, 3) := by decide +kernel
theorem dX8_cell_60 : decode cX8_cell 60 = .ok (.iload_n 1, 1) := by decide +kernel
theorem dX8_cell_61 : decode cX8_cell 61 = .ok (.aaload, 1) := by decide +kernel
theorem dX8_cell_62 : decode cX8_cell 62 = .ok (.getfield 161, 3) := by decide +kernel
theorem dX8_cell_65 : decode cX8_cell 65 = .ok (.iload_n 2, 1) := by decide +kernel
theorem dX8_cell_66 : decode cX8_cell 66 = .ok (.iaload, 1) := by decide +kernel
theorem dX8_cell_67 : decode cX8_cell 67 = .ok (.ireturn, 1) := by decide +kernel
theorem dX8_cell_68 : decode cX8_cell 68 = .ok (.iconst 0, 1) := by decide +kernel
theorem dX8_cell_69 : decode cX8_cell 69 = .ok (.ireturn, 1) := by decide +kernel
theorem dX8_vote_0 : decode cX8_vote 0 = .ok (.aload_n 0, 1) := by decide +kernel
theorem dX8_vote_1 : decode cX8_vote 1 = .ok (.iload_n 1, 1) := by decide +kernel
theorem dX8_vote_2 : decode cX8_vote 2 = .ok (.invokevirtual 153, 3) := by decide +kernel
theorem dX8_vote_5 : decode cX8_vote 5 = .ok (.ifCond .eq 12, 3) := by decide +kernel
theorem dX8_vote_8 : decode cX8_vote 8 = .ok (.iload_n 2, 1) := by decide +kernel
theorem dX8_vote_9 : decode cX8_vote 9 = .ok (.ifCond .lt 8, 3) := by decide +kernel
theorem dX8_vote_12 : decode cX8_vote 12 = .ok (.iload_n 2, 1) := by decide +kernel
theorem dX8_vote_13 : decode cX8_vote 13 = .ok (.iconst 5, 1) := by decide +kernel
theorem dX8_vote_14 : decode cX8_vote 14 = .ok (.if_icmp .lt 5, 3) := by decide +kernel
theorem dX8_vote_17 : decode cX8_vote 17 = .ok (.iconst 0, 1) := by decide +kernel
theorem dX8_vote_18 : decode cX8_vote 18 = .ok (.ireturn, 1) := by decide +kernel
theorem dX8_vote_19 : decode cX8_vote 19 = .ok (.iload_n 3, 1) := by decide +kernel
theorem dX8_vote_20 : decode cX8_vote 20 = .ok (.tableswitch 64 0 2 #[28, 40, 52], 28) := by decide +kernel
theorem dX8_vote_48 : decode cX8_vote 48 = .ok (.aload_n 0, 1) := by decide +kernel
theorem dX8_vote_49 : decode cX8_vote 49 = .ok (.getfield 11, 3) := by decide +kernel
theorem dX8_vote_52 : decode cX8_vote 52 = .ok (.iload_n 1, 1) := by decide +kernel
theorem dX8_vote_53 : decode cX8_vote 53 = .ok (.aaload, 1) := by decide +kernel
theorem dX8_vote_54 : decode cX8_vote 54 = .ok (.getfield 164, 3) := by decide +kernel
theorem dX8_vote_57 : decode cX8_vote 57 = .ok (.iload_n 2, 1) := by decide +kernel
theorem dX8_vote_58 : decode cX8_vote 58 = .ok (.iaload, 1) := by decide +kernel
theorem dX8_vote_59 : decode cX8_vote 59 = .ok (.ireturn, 1) := by decide +kernel
theorem dX8_vote_60 : decode cX8_vote 60 = .ok (.aload_n 0, 1) := by decide +kernel
theorem dX8_vote_61 : decode cX8_vote 61 = .ok (.getfield 11, 3) := by decide +kernel
theorem dX8_vote_64 : decode cX8_vote 64 = .ok (.iload_n 1, 1) := by decide +kernel
theorem dX8_vote_65 : decode cX8_vote 65 = .ok (.aaload, 1) := by decide +kernel
theorem dX8_vote_66 : decode cX8_vote 66 = .ok (.getfield 167, 3) := by decide +kernel
theorem dX8_vote_69 : decode cX8_vote 69 = .ok (.iload_n 2, 1) := by decide +kernel
theorem dX8_vote_70 : decode cX8_vote 70 = .ok (.iaload, 1) := by decide +kernel
theorem dX8_vote_71 : decode cX8_vote 71 = .ok (.ireturn, 1) := by decide +kernel
theorem dX8_vote_72 : decode cX8_vote 72 = .ok (.aload_n 0, 1) := by decide +kernel
theorem dX8_vote_73 : decode cX8_vote 73 = .ok (.getfield 11, 3) := by decide +kernel
theorem dX8_vote_76 : decode cX8_vote 76 = .ok (.iload_n 1, 1) := by decide +kernel
theorem dX8_vote_77 : decode cX8_vote 77 = .ok (.aaload, 1) := by decide +kernel
theorem dX8_vote_78 : decode cX8_vote 78 = .ok (.getfield 170, 3) := by decide +kernel
theorem dX8_vote_81 : decode cX8_vote 81 = .ok (.iload_n 2, 1) := by decide +kernel
theorem dX8_vote_82 : decode cX8_vote 82 = .ok (.iaload, 1) := by decide +kernel
theorem dX8_vote_83 : decode cX8_vote 83 = .ok (.ireturn, 1) := by decide +kernel
theorem dX8_vote_84 : decode cX8_vote 84 = .ok (.iconst 0, 1) := by decide +kernel
theorem dX8_vote_85 : decode cX8_vote 85 = .ok (.ireturn, 1) := by decide +kernel
theorem dX8_client_0 : decode cX8_client 0 = .ok (.iload_n 1, 1) := by decide +kernel
theorem dX8_client_1 : decode cX8_client 1 = .ok (.invokestatic 147, 3) := by decide +kernel
theorem dX8_client_4 : decode cX8_client 4 = .ok (.ifCond .ne 6, 3) := by decide +kernel
theorem dX8_client_7 : decode cX8_client 7 = .ok (.bipush (-2), 2) := by decide +kernel
theorem dX8_client_9 : decode cX8_client 9 = .ok (.ireturn, 1) := by decide +kernel
theorem dX8_client_10 : decode cX8_client 10 = .ok (.aload_n 0, 1) := by decide +kernel
theorem dX8_client_11 : decode cX8_client 11 = .ok (.getfield 17, 3) := by decide +kernel
theorem dX8_client_14 : decode cX8_client 14 = .ok (.iload_n 1, 1) := by decide +kernel
theorem dX8_client_15 : decode cX8_client 15 = .ok (.aaload, 1) := by decide +kernel
theorem dX8_client_16 : decode cX8_client 16 = .ok (.astore_n 3, 1) := by decide +kernel
theorem dX8_client_17 : decode cX8_client 17 = .ok (.aload_n 3, 1) := by decide +kernel
theorem dX8_client_18 : decode cX8_client 18 = .ok (.getfield 173, 3) := by decide +kernel
theorem dX8_client_21 : decode cX8_client 21 = .ok (.ifnonnull 7, 3) := by decide +kernel
theorem dX8_client_24 : decode cX8_client 24 = .ok (.iconst 1, 1) := by decide +kernel
theorem dX8_client_25 : decode cX8_client 25 = .ok (.goto 4, 3) := by decide +kernel
theorem dX8_client_28 : decode cX8_client 28 = .ok (.iconst 0, 1) := by decide +kernel
theorem dX8_client_29 : decode cX8_client 29 = .ok (.istore 4, 2) := by decide +kernel
theorem dX8_client_31 : decode cX8_client 31 = .ok (.iload_n 2, 1) := by decide +kernel
theorem dX8_client_32 : decode cX8_client 32 = .ok (.tableswitch 139 0 6 #[44, 61, 66, 80, 94, 108, 126], 44) := by decide +kernel
theorem dX8_client_76 : decode cX8_client 76 = .ok (.iload 4, 2) := by decide +kernel
theorem dX8_client_78 : decode cX8_client 78 = .ok (.ifCond .eq 7, 3) := by decide +kernel
theorem dX8_client_81 : decode cX8_client 81 = .ok (.iconst (-1), 1) := by decide +kernel
theorem dX8_client_82 : decode cX8_client 82 = .ok (.goto 10, 3) := by decide +kernel
theorem dX8_client_85 : decode cX8_client 85 = .ok (.aload_n 3, 1) := by decide +kernel
theorem dX8_client_86 : decode cX8_client 86 = .ok (.getfield 173, 3) := by decide +kernel
theorem dX8_client_89 : decode cX8_client 89 = .ok (.getfield 177, 3) := by decide +kernel
theorem dX8_client_92 : decode cX8_client 92 = .ok (.ireturn, 1) := by decide +kernel
theorem dX8_client_93 : decode cX8_client 93 = .ok (.aload_n 3, 1) := by decide +kernel
theorem dX8_client_94 : decode cX8_client 94 = .ok (.getfield 182, 3) := by decide +kernel
theorem dX8_client_97 : decode cX8_client 97 = .ok (.ireturn, 1) := by decide +kernel
theorem dX8_client_98 : decode cX8_client 98 = .ok (.iload 4, 2) := by decide +kernel
theorem dX8_client_100 : decode cX8_client 100 = .ok (.ifCond .eq 7, 3) := by decide +kernel
theorem dX8_client_103 : decode cX8_client 103 = .ok (.iconst 0, 1) := by decide +kernel
theorem dX8_client_104 : decode cX8_client 104 = .ok (.goto 7, 3) := by decide +kernel
theorem dX8_client_107 : decode cX8_client 107 = .ok (.aload_n 3, 1) := by decide +kernel
theorem dX8_client_108 : decode cX8_client 108 = .ok (.getfield 183, 3) := by decide +kernel
theorem dX8_client_111 : decode cX8_client 111 = .ok (.ireturn, 1) := by decide +kernel
theorem dX8_client_112 : decode cX8_client 112 = .ok (.iload 4, 2) := by decide +kernel
theorem dX8_client_114 : decode cX8_client 114 = .ok (.ifCond .eq 7, 3) := by decide +kernel
theorem dX8_client_117 : decode cX8_client 117 = .ok (.iconst 0, 1) := by decide +kernel
theorem dX8_client_118 : decode cX8_client 118 = .ok (.goto 7, 3) := by decide +kernel
theorem dX8_client_121 : decode cX8_client 121 = .ok (.aload_n 3, 1) := by decide +kernel
theorem dX8_client_122 : decode cX8_client 122 = .ok (.getfield 186, 3) := by decide +kernel
theorem dX8_client_125 : decode cX8_client 125 = .ok (.ireturn, 1) := by decide +kernel
theorem dX8_client_126 : decode cX8_client 126 = .ok (.iload 4, 2) := by decide +kernel
theorem dX8_client_128 : decode cX8_client 128 = .ok (.ifCond .eq 7, 3) := by decide +kernel
theorem dX8_client_131 : decode cX8_client 131 = .ok (.iconst 0, 1) := by decide +kernel
theorem dX8_client_132 : decode cX8_client 132 = .ok (.goto 7, 3) := by decide +kernel
theorem dX8_client_135 : decode cX8_client 135 = .ok (.aload_n 3, 1) := by decide +kernel
theorem dX8_client_136 : decode cX8_client 136 = .ok (.getfield 189, 3) := by decide +kernel
theorem dX8_client_139 : decode cX8_client 139 = .ok (.ireturn, 1) := by decide +kernel
theorem dX8_client_140 : decode cX8_client 140 = .ok (.iload 4, 2) := by decide +kernel
theorem dX8_client_142 : decode cX8_client 142 = .ok (.ifCond .eq 7, 3) := by decide +kernel
theorem dX8_client_145 : decode cX8_client 145 = .ok (.iconst 0, 1) := by decide +kernel
theorem dX8_client_146 : decode cX8_client 146 = .ok (.goto 11, 3) := by decide +kernel
theorem dX8_client_149 : decode cX8_client 149 = .ok (.aload_n 3, 1) := by decide +kernel
theorem dX8_client_150 : decode cX8_client 150 = .ok (.aload_n 3, 1) := by decide +kernel
theorem dX8_client_151 : decode cX8_client 151 = .ok (.getfield 173, 3) := by decide +kernel
theorem dX8_client_154 : decode cX8_client 154 = .ok (.invokevirtual 192, 3) := by decide +kernel
theorem dX8_client_157 : decode cX8_client 157 = .ok (.ireturn, 1) := by decide +kernel
theorem dX8_client_158 : decode cX8_client 158 = .ok (.aload_n 3, 1) := by decide +kernel
theorem dX8_client_159 : decode cX8_client 159 = .ok (.getfield 150, 3) := by decide +kernel
theorem dX8_client_162 : decode cX8_client 162 = .ok (.ifCond .eq 7, 3) := by decide +kernel
theorem dX8_client_165 : decode cX8_client 165 = .ok (.iconst 1, 1) := by decide +kernel
theorem dX8_client_166 : decode cX8_client 166 = .ok (.goto 4, 3) := by decide +kernel
theorem dX8_client_169 : decode cX8_client 169 = .ok (.iconst 0, 1) := by decide +kernel
theorem dX8_client_170 : decode cX8_client 170 = .ok (.ireturn, 1) := by decide +kernel
theorem dX8_client_171 : decode cX8_client 171 = .ok (.bipush (-2), 2) := by decide +kernel
theorem dX8_client_173 : decode cX8_client 173 = .ok (.ireturn, 1) := by decide +kernel
theorem dX8_operation_0 : decode cX8_operation 0 = .ok (.aload_n 0, 1) := by decide +kernel
theorem dX8_operation_1 : decode cX8_operation 1 = .ok (.getfield 31, 3) := by decide +kernel
theorem dX8_operation_4 : decode cX8_operation 4 = .ok (.iload_n 1, 1) := by decide +kernel
theorem dX8_operation_5 : decode cX8_operation 5 = .ok (.invokevirtual 196, 3) := by decide +kernel
theorem dX8_operation_8 : decode cX8_operation 8 = .ok (.ifCond .ne 6, 3) := by decide +kernel
theorem dX8_operation_11 : decode cX8_operation 11 = .ok (.bipush (-2), 2) := by decide +kernel
theorem dX8_operation_13 : decode cX8_operation 13 = .ok (.ireturn, 1) := by decide +kernel
theorem dX8_operation_14 : decode cX8_operation 14 = .ok (.aload_n 0, 1) := by decide +kernel
theorem dX8_operation_15 : decode cX8_operation 15 = .ok (.getfield 31, 3) := by decide +kernel
theorem dX8_operation_18 : decode cX8_operation 18 = .ok (.getfield 197, 3) := by decide +kernel
theorem dX8_operation_21 : decode cX8_operation 21 = .ok (.iload_n 1, 1) := by decide +kernel
theorem dX8_operation_22 : decode cX8_operation 22 = .ok (.aaload, 1) := by decide +kernel
theorem dX8_operation_23 : decode cX8_operation 23 = .ok (.astore_n 3, 1) := by decide +kernel
theorem dX8_operation_24 : decode cX8_operation 24 = .ok (.iload_n 2, 1) := by decide +kernel
theorem dX8_operation_25 : decode cX8_operation 25 = .ok (.tableswitch 104 0 8 #[51, 56, 61, 66, 71, 84, 89, 94, 99], 51) := by decide +kernel
theorem dX8_operation_76 : decode cX8_operation 76 = .ok (.aload_n 3, 1) := by decide +kernel
theorem dX8_operation_77 : decode cX8_operation 77 = .ok (.getfield 201, 3) := by decide +kernel
theorem dX8_operation_80 : decode cX8_operation 80 = .ok (.ireturn, 1) := by decide +kernel
theorem dX8_operation_81 : decode cX8_operation 81 = .ok (.aload_n 3, 1) := by decide +kernel
theorem dX8_operation_82 : decode cX8_operation 82 = .ok (.getfield 202, 3) := by decide +kernel
theorem dX8_operation_85 : decode cX8_operation 85 = .ok (.ireturn, 1) := by decide +kernel
theorem dX8_operation_86 : decode cX8_operation 86 = .ok (.aload_n 3, 1) := by decide +kernel
theorem dX8_operation_87 : decode cX8_operation 87 = .ok (.getfield 203, 3) := by decide +kernel
theorem dX8_operation_90 : decode cX8_operation 90 = .ok (.ireturn, 1) := by decide +kernel
theorem dX8_operation_91 : decode cX8_operation 91 = .ok (.aload_n 3, 1) := by decide +kernel
theorem dX8_operation_92 : decode cX8_operation 92 = .ok (.getfield 204, 3) := by decide +kernel
theorem dX8_operation_95 : decode cX8_operation 95 = .ok (.ireturn, 1) := by decide +kernel
theorem dX8_operation_96 : decode cX8_operation 96 = .ok (.aload_n 3, 1) := by decide +kernel
theorem dX8_operation_97 : decode cX8_operation 97 = .ok (.invokevirtual 207, 3) := by decide +kernel
theorem dX8_operation_100 : decode cX8_operation 100 = .ok (.ifCond .eq 7, 3) := by decide +kernel
theorem dX8_operation_103 : decode cX8_operation 103 = .ok (.iconst 1, 1) := by decide +kernel
theorem dX8_operation_104 : decode cX8_operation 104 = .ok (.goto 4, 3) := by decide +kernel
theorem dX8_operation_107 : decode cX8_operation 107 = .ok (.iconst 0, 1) := by decide +kernel
theorem dX8_operation_108 : decode cX8_operation 108 = .ok (.ireturn, 1) := by decide +kernel
theorem dX8_operation_109 : decode cX8_operation 109 = .ok (.aload_n 3, 1) := by decide +kernel
theorem dX8_operation_110 : decode cX8_operation 110 = .ok (.getfield 211, 3) := by decide +kernel
theorem dX8_operation_113 : decode cX8_operation 113 = .ok (.ireturn, 1) := by decide +kernel
theorem dX8_operation_114 : decode cX8_operation 114 = .ok (.aload_n 3, 1) := by decide +kernel
theorem dX8_operation_115 : decode cX8_operation 115 = .ok (.getfield 214, 3) := by decide +kernel
theorem dX8_operation_118 : decode cX8_operation 118 = .ok (.ireturn, 1) := by decide +kernel
theorem dX8_operation_119 : decode cX8_operation 119 = .ok (.aload_n 3, 1) := by decide +kernel
theorem dX8_operation_120 : decode cX8_operation 120 = .ok (.getfield 217, 3) := by decide +kernel
theorem dX8_operation_123 : decode cX8_operation 123 = .ok (.ireturn, 1) := by decide +kernel
theorem dX8_operation_124 : decode cX8_operation 124 = .ok (.aload_n 3, 1) := by decide +kernel
theorem dX8_operation_125 : decode cX8_operation 125 = .ok (.getfield 220, 3) := by decide +kernel
theorem dX8_operation_128 : decode cX8_operation 128 = .ok (.ireturn, 1) := by decide +kernel
theorem dX8_operation_129 : decode cX8_operation 129 = .ok (.bipush (-2), 2) := by decide +kernel
theorem dX8_operation_131 : decode cX8_operation 131 = .ok (.ireturn, 1) := by decide +kernel
theorem dX8_count_0 : decode cX8_count 0 = .ok (.iload_n 1, 1) := by decide +kernel
theorem dX8_count_1 : decode cX8_count 1 = .ok (.tableswitch 72 0 4 #[35, 43, 51, 59, 67], 35) := by decide +kernel
theorem dX8_count_36 : decode cX8_count 36 = .ok (.aload_n 0, 1) := by decide +kernel
theorem dX8_count_37 : decode cX8_count 37 = .ok (.getfield 31, 3) := by decide +kernel
theorem dX8_count_40 : decode cX8_count 40 = .ok (.getfield 223, 3) := by decide +kernel
theorem dX8_count_43 : decode cX8_count 43 = .ok (.ireturn, 1) := by decide +kernel
theorem dX8_count_44 : decode cX8_count 44 = .ok (.aload_n 0, 1) := by decide +kernel
theorem dX8_count_45 : decode cX8_count 45 = .ok (.getfield 31, 3) := by decide +kernel
theorem dX8_count_48 : decode cX8_count 48 = .ok (.getfield 226, 3) := by decide +kernel
theorem dX8_count_51 : decode cX8_count 51 = .ok (.ireturn, 1) := by decide +kernel
theorem dX8_count_52 : decode cX8_count 52 = .ok (.aload_n 0, 1) := by decide +kernel
theorem dX8_count_53 : decode cX8_count 53 = .ok (.getfield 31, 3) := by decide +kernel
theorem dX8_count_56 : decode cX8_count 56 = .ok (.getfield 229, 3) := by decide +kernel
theorem dX8_count_59 : decode cX8_count 59 = .ok (.ireturn, 1) := by decide +kernel
theorem dX8_count_60 : decode cX8_count 60 = .ok (.aload_n 0, 1) := by decide +kernel
theorem dX8_count_61 : decode cX8_count 61 = .ok (.getfield 24, 3) := by decide +kernel
theorem dX8_count_64 : decode cX8_count 64 = .ok (.getfield 232, 3) := by decide +kernel
theorem dX8_count_67 : decode cX8_count 67 = .ok (.ireturn, 1) := by decide +kernel
theorem dX8_count_68 : decode cX8_count 68 = .ok (.aload_n 0, 1) := by decide +kernel
theorem dX8_count_69 : decode cX8_count 69 = .ok (.getfield 235, 3) := by decide +kernel
theorem dX8_count_72 : decode cX8_count 72 = .ok (.ireturn, 1) := by decide +kernel
theorem dX8_count_73 : decode cX8_count 73 = .ok (.iconst (-1), 1) := by decide +kernel
theorem dX8_count_74 : decode cX8_count 74 = .ok (.ireturn, 1) := by decide +kernel
theorem dX8_atomic_0 : decode cX8_atomic 0 = .ok (.iload_n 1, 1) := by decide +kernel
theorem dX8_atomic_1 : decode cX8_atomic 1 = .ok (.invokestatic 58, 3) := by decide +kernel
theorem dX8_atomic_4 : decode cX8_atomic 4 = .ok (.ifCond .eq 18, 3) := by decide +kernel
theorem dX8_atomic_7 : decode cX8_atomic 7 = .ok (.aload_n 0, 1) := by decide +kernel
theorem dX8_atomic_8 : decode cX8_atomic 8 = .ok (.getfield 38, 3) := by decide +kernel
theorem dX8_atomic_11 : decode cX8_atomic 11 = .ok (.aload_n 0, 1) := by decide +kernel
theorem dX8_atomic_12 : decode cX8_atomic 12 = .ok (.getfield 31, 3) := by decide +kernel
theorem dX8_atomic_15 : decode cX8_atomic 15 = .ok (.iload_n 1, 1) := by decide +kernel
theorem dX8_atomic_16 : decode cX8_atomic 16 = .ok (.invokevirtual 238, 3) := by decide +kernel
theorem dX8_atomic_19 : decode cX8_atomic 19 = .ok (.ifCond .ne 5, 3) := by decide +kernel
theorem dX8_atomic_22 : decode cX8_atomic 22 = .ok (.iconst (-1), 1) := by decide +kernel
theorem dX8_atomic_23 : decode cX8_atomic 23 = .ok (.ireturn, 1) := by decide +kernel
theorem dX8_atomic_24 : decode cX8_atomic 24 = .ok (.aload_n 0, 1) := by decide +kernel
theorem dX8_atomic_25 : decode cX8_atomic 25 = .ok (.getfield 38, 3) := by decide +kernel
theorem dX8_atomic_28 : decode cX8_atomic 28 = .ok (.invokevirtual 242, 3) := by decide +kernel
theorem dX8_atomic_31 : decode cX8_atomic 31 = .ok (.ifCond .eq 7, 3) := by decide +kernel
theorem dX8_atomic_34 : decode cX8_atomic 34 = .ok (.iconst 1, 1) := by decide +kernel
theorem dX8_atomic_35 : decode cX8_atomic 35 = .ok (.goto 4, 3) := by decide +kernel
theorem dX8_atomic_38 : decode cX8_atomic 38 = .ok (.iconst 0, 1) := by decide +kernel
theorem dX8_atomic_39 : decode cX8_atomic 39 = .ok (.ireturn, 1) := by decide +kernel
theorem dX8_isClient_0 : decode cX8_isClient 0 = .ok (.iload_n 0, 1) := by decide +kernel
theorem dX8_isClient_1 : decode cX8_isClient 1 = .ok (.ifCond .lt 12, 3) := by decide +kernel
theorem dX8_isClient_4 : decode cX8_isClient 4 = .ok (.iload_n 0, 1) := by decide +kernel
theorem dX8_isClient_5 : decode cX8_isClient 5 = .ok (.iconst 4, 1) := by decide +kernel
theorem dX8_isClient_6 : decode cX8_isClient 6 = .ok (.if_icmp .ge 7, 3) := by decide +kernel
theorem dX8_isClient_9 : decode cX8_isClient 9 = .ok (.iconst 1, 1) := by decide +kernel
theorem dX8_isClient_10 : decode cX8_isClient 10 = .ok (.goto 4, 3) := by decide +kernel
theorem dX8_isClient_13 : decode cX8_isClient 13 = .ok (.iconst 0, 1) := by decide +kernel
theorem dX8_isClient_14 : decode cX8_isClient 14 = .ok (.ireturn, 1) := by decide +kernel
theorem dX8_isRegister_0 : decode cX8_isRegister 0 = .ok (.iload_n 0, 1) := by decide +kernel
theorem dX8_isRegister_1 : decode cX8_isRegister 1 = .ok (.ifCond .lt 12, 3) := by decide +kernel
theorem dX8_isRegister_4 : decode cX8_isRegister 4 = .ok (.iload_n 0, 1) := by decide +kernel
theorem dX8_isRegister_5 : decode cX8_isRegister 5 = .ok (.iconst 3, 1) := by decide +kernel
theorem dX8_isRegister_6 : decode cX8_isRegister 6 = .ok (.if_icmp .ge 7, 3) := by decide +kernel
theorem dX8_isRegister_9 : decode cX8_isRegister 9 = .ok (.iconst 1, 1) := by decide +kernel
theorem dX8_isRegister_10 : decode cX8_isRegister 10 = .ok (.goto 4, 3) := by decide +kernel
theorem dX8_isRegister_13 : decode cX8_isRegister 13 = .ok (.iconst 0, 1) := by decide +kernel
theorem dX8_isRegister_14 : decode cX8_isRegister 14 = .ok (.ireturn, 1) := by decide +kernel
theorem dX8_isServer_0 : decode cX8_isServer 0 = .ok (.iload_n 1, 1) := by decide +kernel
theorem dX8_isServer_1 : decode cX8_isServer 1 = .ok (.ifCond .lt 15, 3) := by decide +kernel
theorem dX8_isServer_4 : decode cX8_isServer 4 = .ok (.iload_n 1, 1) := by decide +kernel
theorem dX8_isServer_5 : decode cX8_isServer 5 = .ok (.aload_n 0, 1) := by decide +kernel
theorem dX8_isServer_6 : decode cX8_isServer 6 = .ok (.getfield 65, 3) := by decide +kernel
theorem dX8_isServer_9 : decode cX8_isServer 9 = .ok (.if_icmp .ge 7, 3) := by decide +kernel
theorem dX8_isServer_12 : decode cX8_isServer 12 = .ok (.iconst 1, 1) := by decide +kernel
theorem dX8_isServer_13 : decode cX8_isServer 13 = .ok (.goto 4, 3) := by decide +kernel
theorem dX8_isServer_16 : decode cX8_isServer 16 = .ok (.iconst 0, 1) := by decide +kernel
theorem dX8_isServer_17 : decode cX8_isServer 17 = .ok (.ireturn, 1) := by decide +kernel
theorem dX8_isSetAmong_0 : decode cX8_isSetAmong 0 = .ok (.iload_n 1, 1) := by decide +kernel
theorem dX8_isSetAmong_1 : decode cX8_isSetAmong 1 = .ok (.invokestatic 90, 3) := by decide +kernel
theorem dX8_isSetAmong_4 : decode cX8_isSetAmong 4 = .ok (.ifCond .eq 14, 3) := by decide +kernel
theorem dX8_isSetAmong_7 : decode cX8_isSetAmong 7 = .ok (.iload_n 1, 1) := by decide +kernel
theorem dX8_isSetAmong_8 : decode cX8_isSetAmong 8 = .ok (.iconst 1, 1) := by decide +kernel
theorem dX8_isSetAmong_9 : decode cX8_isSetAmong 9 = .ok (.iload_n 0, 1) := by decide +kernel
theorem dX8_isSetAmong_10 : decode cX8_isSetAmong 10 = .ok (.ishl, 1) := by decide +kernel
theorem dX8_isSetAmong_11 : decode cX8_isSetAmong 11 = .ok (.if_icmp .ge 7, 3) := by decide +kernel
theorem dX8_isSetAmong_14 : decode cX8_isSetAmong 14 = .ok (.iconst 1, 1) := by decide +kernel
theorem dX8_isSetAmong_15 : decode cX8_isSetAmong 15 = .ok (.goto 4, 3) := by decide +kernel
theorem dX8_isSetAmong_18 : decode cX8_isSetAmong 18 = .ok (.iconst 0, 1) := by decide +kernel
theorem dX8_isSetAmong_19 : decode cX8_isSetAmong 19 = .ok (.ireturn, 1) := by decide +kernel
theorem dX8_isSet_0 : decode cX8_isSet 0 = .ok (.iload_n 0, 1) := by decide +kernel
theorem dX8_isSet_1 : decode cX8_isSet 1 = .ok (.ifCond .le 7, 3) := by decide +kernel
theorem dX8_isSet_4 : decode cX8_isSet 4 = .ok (.iconst 1, 1) := by decide +kernel
theorem dX8_isSet_5 : decode cX8_isSet 5 = .ok (.goto 4, 3) := by decide +kernel
theorem dX8_isSet_8 : decode cX8_isSet 8 = .ok (.iconst 0, 1) := by decide +kernel
theorem dX8_isSet_9 : decode cX8_isSet 9 = .ok (.ireturn, 1) := by decide +kernel
theorem dX8_isMajority_0 : decode cX8_isMajority 0 = .ok (.iconst 2, 1) := by decide +kernel
theorem dX8_isMajority_1 : decode cX8_isMajority 1 = .ok (.iload_n 0, 1) := by decide +kernel
theorem dX8_isMajority_2 : decode cX8_isMajority 2 = .ok (.iload_n 1, 1) := by decide +kernel
theorem dX8_isMajority_3 : decode cX8_isMajority 3 = .ok (.iand, 1) := by decide +kernel
theorem dX8_isMajority_4 : decode cX8_isMajority 4 = .ok (.invokestatic 245, 3) := by decide +kernel
theorem dX8_isMajority_7 : decode cX8_isMajority 7 = .ok (.imul, 1) := by decide +kernel
theorem dX8_isMajority_8 : decode cX8_isMajority 8 = .ok (.iload_n 0, 1) := by decide +kernel
theorem dX8_isMajority_9 : decode cX8_isMajority 9 = .ok (.invokestatic 245, 3) := by decide +kernel
theorem dX8_isMajority_12 : decode cX8_isMajority 12 = .ok (.if_icmp .le 7, 3) := by decide +kernel
theorem dX8_isMajority_15 : decode cX8_isMajority 15 = .ok (.iconst 1, 1) := by decide +kernel
theorem dX8_isMajority_16 : decode cX8_isMajority 16 = .ok (.goto 4, 3) := by decide +kernel
theorem dX8_isMajority_19 : decode cX8_isMajority 19 = .ok (.iconst 0, 1) := by decide +kernel
theorem dX8_isMajority_20 : decode cX8_isMajority 20 = .ok (.ireturn, 1) := by decide +kernel
theorem dX8_isIn_0 : decode cX8_isIn 0 = .ok (.iload_n 0, 1) := by decide +kernel
theorem dX8_isIn_1 : decode cX8_isIn 1 = .ok (.iload_n 1, 1) := by decide +kernel
theorem dX8_isIn_2 : decode cX8_isIn 2 = .ok (.ishr, 1) := by decide +kernel
theorem dX8_isIn_3 : decode cX8_isIn 3 = .ok (.iconst 1, 1) := by decide +kernel
theorem dX8_isIn_4 : decode cX8_isIn 4 = .ok (.iand, 1) := by decide +kernel
theorem dX8_isIn_5 : decode cX8_isIn 5 = .ok (.ifCond .eq 7, 3) := by decide +kernel
theorem dX8_isIn_8 : decode cX8_isIn 8 = .ok (.iconst 1, 1) := by decide +kernel
theorem dX8_isIn_9 : decode cX8_isIn 9 = .ok (.goto 4, 3) := by decide +kernel
theorem dX8_isIn_12 : decode cX8_isIn 12 = .ok (.iconst 0, 1) := by decide +kernel
theorem dX8_isIn_13 : decode cX8_isIn 13 = .ok (.ireturn, 1) := by decide +kernel
theorem dX8_markBeyond_0 : decode cX8_markBeyond 0 = .ok (.iconst 4, 1) := by decide +kernel
theorem dX8_markBeyond_1 : decode cX8_markBeyond 1 = .ok (.iload_n 0, 1) := by decide +kernel
theorem dX8_markBeyond_2 : decode cX8_markBeyond 2 = .ok (.iconst 4, 1) := by decide +kernel
theorem dX8_markBeyond_3 : decode cX8_markBeyond 3 = .ok (.idiv, 1) := by decide +kernel
theorem dX8_markBeyond_4 : decode cX8_markBeyond 4 = .ok (.iconst 1, 1) := by decide +kernel
theorem dX8_markBeyond_5 : decode cX8_markBeyond 5 = .ok (.iadd, 1) := by decide +kernel
theorem dX8_markBeyond_6 : decode cX8_markBeyond 6 = .ok (.imul, 1) := by decide +kernel
theorem dX8_markBeyond_7 : decode cX8_markBeyond 7 = .ok (.iload_n 1, 1) := by decide +kernel
theorem dX8_markBeyond_8 : decode cX8_markBeyond 8 = .ok (.iadd, 1) := by decide +kernel
