theorem dX9_map_15 : decode cX9_map 15 = .ok (.iconst (-1), 1) := by decide +kernel
theorem dX9_map_16 : decode cX9_map 16 = .ok (.if_icmp .eq 12, 3) := by decide +kernel
theorem dX9_map_19 : decode cX9_map 19 = .ok (.iload_n 3, 1) := by decide +kernel
theorem dX9_map_20 : decode cX9_map 20 = .ok (.ifCond .lt 8, 3) := by decide +kernel
theorem dX9_map_23 : decode cX9_map 23 = .ok (.iload_n 3, 1) := by decide +kernel
theorem dX9_map_24 : decode cX9_map 24 = .ok (.iconst 5, 1) := by decide +kernel
theorem dX9_map_25 : decode cX9_map 25 = .ok (.if_icmp .le 8, 3) := by decide +kernel
theorem dX9_map_28 : decode cX9_map 28 = .ok (.bipush (-2), 2) := by decide +kernel
theorem dX9_map_30 : decode cX9_map 30 = .ok (.goto 15, 3) := by decide +kernel
theorem dX9_map_33 : decode cX9_map 33 = .ok (.aload_n 0, 1) := by decide +kernel
theorem dX9_map_34 : decode cX9_map 34 = .ok (.getfield 13, 3) := by decide +kernel
theorem dX9_map_37 : decode cX9_map 37 = .ok (.bipush 6, 2) := by decide +kernel
theorem dX9_map_39 : decode cX9_map 39 = .ok (.iload 4, 2) := by decide +kernel
theorem dX9_map_41 : decode cX9_map 41 = .ok (.imul, 1) := by decide +kernel
theorem dX9_map_42 : decode cX9_map 42 = .ok (.iload_n 3, 1) := by decide +kernel
theorem dX9_map_43 : decode cX9_map 43 = .ok (.iadd, 1) := by decide +kernel
theorem dX9_map_44 : decode cX9_map 44 = .ok (.iaload, 1) := by decide +kernel
theorem dX9_map_45 : decode cX9_map 45 = .ok (.ireturn, 1) := by decide +kernel
theorem dX9_isServer_0 : decode cX9_isServer 0 = .ok (.iload_n 1, 1) := by decide +kernel
theorem dX9_isServer_1 : decode cX9_isServer 1 = .ok (.ifCond .lt 15, 3) := by decide +kernel
theorem dX9_isServer_4 : decode cX9_isServer 4 = .ok (.iload_n 1, 1) := by decide +kernel
theorem dX9_isServer_5 : decode cX9_isServer 5 = .ok (.aload_n 0, 1) := by decide +kernel
theorem dX9_isServer_6 : decode cX9_isServer 6 = .ok (.getfield 7, 3) := by decide +kernel
theorem dX9_isServer_9 : decode cX9_isServer 9 = .ok (.if_icmp .ge 7, 3) := by decide +kernel
theorem dX9_isServer_12 : decode cX9_isServer 12 = .ok (.iconst 1, 1) := by decide +kernel
theorem dX9_isServer_13 : decode cX9_isServer 13 = .ok (.goto 4, 3) := by decide +kernel
theorem dX9_isServer_16 : decode cX9_isServer 16 = .ok (.iconst 0, 1) := by decide +kernel
theorem dX9_isServer_17 : decode cX9_isServer 17 = .ok (.ireturn, 1) := by decide +kernel
theorem dX9_cell_0 : decode cX9_cell 0 = .ok (.aload_n 0, 1) := by decide +kernel
theorem dX9_cell_1 : decode cX9_cell 1 = .ok (.iconst 0, 1) := by decide +kernel
theorem dX9_cell_2 : decode cX9_cell 2 = .ok (.putfield 140, 3) := by decide +kernel
theorem dX9_cell_5 : decode cX9_cell 5 = .ok (.aload_n 0, 1) := by decide +kernel
theorem dX9_cell_6 : decode cX9_cell 6 = .ok (.iload_n 1, 1) := by decide +kernel
theorem dX9_cell_7 : decode cX9_cell 7 = .ok (.invokevirtual 303, 3) := by decide +kernel
theorem dX9_cell_10 : decode cX9_cell 10 = .ok (.ifCond .eq 11, 3) := by decide +kernel
theorem dX9_cell_13 : decode cX9_cell 13 = .ok (.aload_n 0, 1) := by decide +kernel
theorem dX9_cell_14 : decode cX9_cell 14 = .ok (.iload_n 2, 1) := by decide +kernel
theorem dX9_cell_15 : decode cX9_cell 15 = .ok (.invokevirtual 207, 3) := by decide +kernel
theorem dX9_cell_18 : decode cX9_cell 18 = .ok (.ifCond .ne 5, 3) := by decide +kernel
theorem dX9_cell_21 : decode cX9_cell 21 = .ok (.iconst 0, 1) := by decide +kernel
theorem dX9_cell_22 : decode cX9_cell 22 = .ok (.ireturn, 1) := by decide +kernel
theorem dX9_cell_23 : decode cX9_cell 23 = .ok (.iload_n 3, 1) := by decide +kernel
theorem dX9_cell_24 : decode cX9_cell 24 = .ok (.ifCond .ne 16, 3) := by decide +kernel
theorem dX9_cell_27 : decode cX9_cell 27 = .ok (.aload_n 0, 1) := by decide +kernel
theorem dX9_cell_28 : decode cX9_cell 28 = .ok (.getfield 21, 3) := by decide +kernel
theorem dX9_cell_31 : decode cX9_cell 31 = .ok (.iconst 3, 1) := by decide +kernel
theorem dX9_cell_32 : decode cX9_cell 32 = .ok (.iload_n 1, 1) := by decide +kernel
theorem dX9_cell_33 : decode cX9_cell 33 = .ok (.imul, 1) := by decide +kernel
theorem dX9_cell_34 : decode cX9_cell 34 = .ok (.iload_n 2, 1) := by decide +kernel
theorem dX9_cell_35 : decode cX9_cell 35 = .ok (.iadd, 1) := by decide +kernel
theorem dX9_cell_36 : decode cX9_cell 36 = .ok (.iaload, 1) := by decide +kernel
theorem dX9_cell_37 : decode cX9_cell 37 = .ok (.goto 22, 3) := by decide +kernel
theorem dX9_cell_40 : decode cX9_cell 40 = .ok (.iload_n 3, 1) := by decide +kernel
theorem dX9_cell_41 : decode cX9_cell 41 = .ok (.iconst 1, 1) := by decide +kernel
theorem dX9_cell_42 : decode cX9_cell 42 = .ok (.if_icmp .ne 16, 3) := by decide +kernel
theorem dX9_cell_45 : decode cX9_cell 45 = .ok (.aload_n 0, 1) := by decide +kernel
theorem dX9_cell_46 : decode cX9_cell 46 = .ok (.getfield 24, 3) := by decide +kernel
theorem dX9_cell_49 : decode cX9_cell 49 = .ok (.iconst 3, 1) := by decide +kernel
theorem dX9_cell_50 : decode cX9_cell 50 = .ok (.iload_n 1, 1) := by decide +kernel
theorem dX9_cell_51 : decode cX9_cell 51 = .ok (.imul, 1) := by decide +kernel
theorem dX9_cell_52 : decode cX9_cell 52 = .ok (.iload_n 2, 1) := by decide +kernel
theorem dX9_cell_53 : decode cX9_cell 53 = .ok (.iadd, 1) := by decide +kernel
theorem dX9_cell_54 : decode cX9_cell 54 = .ok (.iaload, 1) := by decide +kernel
theorem dX9_cell_55 : decode cX9_cell 55 = .ok (.goto 4, 3) := by decide +kernel
theorem dX9_cell_58 : decode cX9_cell 58 = .ok (.iconst 0, 1) := by decide +kernel
theorem dX9_cell_59 : decode cX9_cell 59 = .ok (.ireturn, 1) := by decide +kernel
theorem dX9_vote_0 : decode cX9_vote 0 = .ok (.aload_n 0, 1) := by decide +kernel
theorem dX9_vote_1 : decode cX9_vote 1 = .ok (.iconst 0, 1) := by decide +kernel
theorem dX9_vote_2 : decode cX9_vote 2 = .ok (.putfield 140, 3) := by decide +kernel
theorem dX9_vote_5 : decode cX9_vote 5 = .ok (.aload_n 0, 1) := by decide +kernel
theorem dX9_vote_6 : decode cX9_vote 6 = .ok (.iload_n 1, 1) := by decide +kernel
theorem dX9_vote_7 : decode cX9_vote 7 = .ok (.invokevirtual 303, 3) := by decide +kernel
theorem dX9_vote_10 : decode cX9_vote 10 = .ok (.ifCond .eq 12, 3) := by decide +kernel
theorem dX9_vote_13 : decode cX9_vote 13 = .ok (.iload_n 2, 1) := by decide +kernel
theorem dX9_vote_14 : decode cX9_vote 14 = .ok (.ifCond .lt 8, 3) := by decide +kernel
theorem dX9_vote_17 : decode cX9_vote 17 = .ok (.iload_n 2, 1) := by decide +kernel
theorem dX9_vote_18 : decode cX9_vote 18 = .ok (.iconst 4, 1) := by decide +kernel
theorem dX9_vote_19 : decode cX9_vote 19 = .ok (.if_icmp .le 5, 3) := by decide +kernel
theorem dX9_vote_22 : decode cX9_vote 22 = .ok (.iconst 0, 1) := by decide +kernel
theorem dX9_vote_23 : decode cX9_vote 23 = .ok (.ireturn, 1) := by decide +kernel
theorem dX9_vote_24 : decode cX9_vote 24 = .ok (.iload_n 3, 1) := by decide +kernel
theorem dX9_vote_25 : decode cX9_vote 25 = .ok (.ifCond .ne 14, 3) := by decide +kernel
theorem dX9_vote_28 : decode cX9_vote 28 = .ok (.aload_n 0, 1) := by decide +kernel
theorem dX9_vote_29 : decode cX9_vote 29 = .ok (.getfield 27, 3) := by decide +kernel
theorem dX9_vote_32 : decode cX9_vote 32 = .ok (.iconst 5, 1) := by decide +kernel
theorem dX9_vote_33 : decode cX9_vote 33 = .ok (.iload_n 1, 1) := by decide +kernel
theorem dX9_vote_34 : decode cX9_vote 34 = .ok (.imul, 1) := by decide +kernel
theorem dX9_vote_35 : decode cX9_vote 35 = .ok (.iload_n 2, 1) := by decide +kernel
theorem dX9_vote_36 : decode cX9_vote 36 = .ok (.iadd, 1) := by decide +kernel
theorem dX9_vote_37 : decode cX9_vote 37 = .ok (.iaload, 1) := by decide +kernel
theorem dX9_vote_38 : decode cX9_vote 38 = .ok (.ireturn, 1) := by decide +kernel
theorem dX9_vote_39 : decode cX9_vote 39 = .ok (.iload_n 3, 1) := by decide +kernel
theorem dX9_vote_40 : decode cX9_vote 40 = .ok (.iconst 1, 1) := by decide +kernel
theorem dX9_vote_41 : decode cX9_vote 41 = .ok (.if_icmp .ne 14, 3) := by decide +kernel
theorem dX9_vote_44 : decode cX9_vote 44 = .ok (.aload_n 0, 1) := by decide +kernel
theorem dX9_vote_45 : decode cX9_vote 45 = .ok (.getfield 30, 3) := by decide +kernel
theorem dX9_vote_48 : decode cX9_vote 48 = .ok (.iconst 5, 1) := by decide +kernel
theorem dX9_vote_49 : decode cX9_vote 49 = .ok (.iload_n 1, 1) := by decide +kernel
theorem dX9_vote_50 : decode cX9_vote 50 = .ok (.imul, 1) := by decide +kernel
theorem dX9_vote_51 : decode cX9_vote 51 = .ok (.iload_n 2, 1) := by decide +kernel
theorem dX9_vote_52 : decode cX9_vote 52 = .ok (.iadd, 1) := by decide +kernel
theorem dX9_vote_53 : decode cX9_vote 53 = .ok (.iaload, 1) := by decide +kernel
theorem dX9_vote_54 : decode cX9_vote 54 = .ok (.ireturn, 1) := by decide +kernel
theorem dX9_vote_55 : decode cX9_vote 55 = .ok (.iload_n 3, 1) := by decide +kernel
theorem dX9_vote_56 : decode cX9_vote 56 = .ok (.iconst 2, 1) := by decide +kernel
theorem dX9_vote_57 : decode cX9_vote 57 = .ok (.if_icmp .ne 16, 3) := by decide +kernel
theorem dX9_vote_60 : decode cX9_vote 60 = .ok (.aload_n 0, 1) := by decide +kernel
theorem dX9_vote_61 : decode cX9_vote 61 = .ok (.getfield 33, 3) := by decide +kernel
theorem dX9_vote_64 : decode cX9_vote 64 = .ok (.iconst 5, 1) := by decide +kernel
theorem dX9_vote_65 : decode cX9_vote 65 = .ok (.iload_n 1, 1) := by decide +kernel
theorem dX9_vote_66 : decode cX9_vote 66 = .ok (.imul, 1) := by decide +kernel
theorem dX9_vote_67 : decode cX9_vote 67 = .ok (.iload_n 2, 1) := by decide +kernel
theorem dX9_vote_68 : decode cX9_vote 68 = .ok (.iadd, 1) := by decide +kernel
theorem dX9_vote_69 : decode cX9_vote 69 = .ok (.iaload, 1) := by decide +kernel
theorem dX9_vote_70 : decode cX9_vote 70 = .ok (.goto 4, 3) := by decide +kernel
theorem dX9_vote_73 : decode cX9_vote 73 = .ok (.iconst 0, 1) := by decide +kernel
theorem dX9_vote_74 : decode cX9_vote 74 = .ok (.ireturn, 1) := by decide +kernel
theorem dX9_client_0 : decode cX9_client 0 = .ok (.aload_n 0, 1) := by decide +kernel
theorem dX9_client_1 : decode cX9_client 1 = .ok (.iconst 0, 1) := by decide +kernel
theorem dX9_client_2 : decode cX9_client 2 = .ok (.putfield 140, 3) := by decide +kernel
theorem dX9_client_5 : decode cX9_client 5 = .ok (.aload_n 0, 1) := by decide +kernel
theorem dX9_client_6 : decode cX9_client 6 = .ok (.iload_n 1, 1) := by decide +kernel
theorem dX9_client_7 : decode cX9_client 7 = .ok (.invokevirtual 201, 3) := by decide +kernel
theorem dX9_client_10 : decode cX9_client 10 = .ok (.ifCond .eq 13, 3) := by decide +kernel
theorem dX9_client_13 : decode cX9_client 13 = .ok (.iload_n 2, 1) := by decide +kernel
theorem dX9_client_14 : decode cX9_client 14 = .ok (.ifCond .lt 9, 3) := by decide +kernel
theorem dX9_client_17 : decode cX9_client 17 = .ok (.iload_n 2, 1) := by decide +kernel
theorem dX9_client_18 : decode cX9_client 18 = .ok (.bipush 6, 2) := by decide +kernel
theorem dX9_client_20 : decode cX9_client 20 = .ok (.if_icmp .le 6, 3) := by decide +kernel
theorem dX9_client_23 : decode cX9_client 23 = .ok (.bipush (-2), 2) := by decide +kernel
theorem dX9_client_25 : decode cX9_client 25 = .ok (.ireturn, 1) := by decide +kernel
theorem dX9_client_26 : decode cX9_client 26 = .ok (.aload_n 0, 1) := by decide +kernel
theorem dX9_client_27 : decode cX9_client 27 = .ok (.getfield 103, 3) := by decide +kernel
theorem dX9_client_30 : decode cX9_client 30 = .ok (.iload_n 1, 1) := by decide +kernel
theorem dX9_client_31 : decode cX9_client 31 = .ok (.iaload, 1) := by decide +kernel
theorem dX9_client_32 : decode cX9_client 32 = .ok (.istore_n 3, 1) := by decide +kernel
theorem dX9_client_33 : decode cX9_client 33 = .ok (.iload_n 2, 1) := by decide +kernel
theorem dX9_client_34 : decode cX9_client 34 = .ok (.ifCond .ne 5, 3) := by decide +kernel
theorem dX9_client_37 : decode cX9_client 37 = .ok (.iload_n 3, 1) := by decide +kernel
theorem dX9_client_38 : decode cX9_client 38 = .ok (.ireturn, 1) := by decide +kernel
theorem dX9_client_39 : decode cX9_client 39 = .ok (.iload_n 2, 1) := by decide +kernel
theorem dX9_client_40 : decode cX9_client 40 = .ok (.iconst 1, 1) := by decide +kernel
theorem dX9_client_41 : decode cX9_client 41 = .ok (.if_icmp .ne 10, 3) := by decide +kernel
theorem dX9_client_44 : decode cX9_client 44 = .ok (.aload_n 0, 1) := by decide +kernel
theorem dX9_client_45 : decode cX9_client 45 = .ok (.getfield 106, 3) := by decide +kernel
theorem dX9_client_48 : decode cX9_client 48 = .ok (.iload_n 1, 1) := by decide +kernel
theorem dX9_client_49 : decode cX9_client 49 = .ok (.iaload, 1) := by decide +kernel
theorem dX9_client_50 : decode cX9_client 50 = .ok (.ireturn, 1) := by decide +kernel
theorem dX9_client_51 : decode cX9_client 51 = .ok (.iload_n 2, 1) := by decide +kernel
theorem dX9_client_52 : decode cX9_client 52 = .ok (.bipush 6, 2) := by decide +kernel
theorem dX9_client_54 : decode cX9_client 54 = .ok (.if_icmp .ne 21, 3) := by decide +kernel
theorem dX9_client_57 : decode cX9_client 57 = .ok (.aload_n 0, 1) := by decide +kernel
theorem dX9_client_58 : decode cX9_client 58 = .ok (.getfield 17, 3) := by decide +kernel
theorem dX9_client_61 : decode cX9_client 61 = .ok (.bipush 7, 2) := by decide +kernel
theorem dX9_client_63 : decode cX9_client 63 = .ok (.iload_n 1, 1) := by decide +kernel
theorem dX9_client_64 : decode cX9_client 64 = .ok (.iadd, 1) := by decide +kernel
theorem dX9_client_65 : decode cX9_client 65 = .ok (.baload, 1) := by decide +kernel
theorem dX9_client_66 : decode cX9_client 66 = .ok (.ifCond .eq 7, 3) := by decide +kernel
theorem dX9_client_69 : decode cX9_client 69 = .ok (.iconst 1, 1) := by decide +kernel
theorem dX9_client_70 : decode cX9_client 70 = .ok (.goto 4, 3) := by decide +kernel
theorem dX9_client_73 : decode cX9_client 73 = .ok (.iconst 0, 1) := by decide +kernel
theorem dX9_client_74 : decode cX9_client 74 = .ok (.ireturn, 1) := by decide +kernel
theorem dX9_client_75 : decode cX9_client 75 = .ok (.iload_n 3, 1) := by decide +kernel
theorem dX9_client_76 : decode cX9_client 76 = .ok (.iconst (-1), 1) := by decide +kernel
theorem dX9_client_77 : decode cX9_client 77 = .ok (.if_icmp .ne 5, 3) := by decide +kernel
theorem dX9_client_80 : decode cX9_client 80 = .ok (.iconst 0, 1) := by decide +kernel
theorem dX9_client_81 : decode cX9_client 81 = .ok (.ireturn, 1) := by decide +kernel
theorem dX9_client_82 : decode cX9_client 82 = .ok (.iload_n 2, 1) := by decide +kernel
theorem dX9_client_83 : decode cX9_client 83 = .ok (.iconst 2, 1) := by decide +kernel
theorem dX9_client_84 : decode cX9_client 84 = .ok (.if_icmp .ne 10, 3) := by decide +kernel
theorem dX9_client_87 : decode cX9_client 87 = .ok (.aload_n 0, 1) := by decide +kernel
theorem dX9_client_88 : decode cX9_client 88 = .ok (.getfield 109, 3) := by decide +kernel
theorem dX9_client_91 : decode cX9_client 91 = .ok (.iload_n 1, 1) := by decide +kernel
theorem dX9_client_92 : decode cX9_client 92 = .ok (.iaload, 1) := by decide +kernel
theorem dX9_client_93 : decode cX9_client 93 = .ok (.ireturn, 1) := by decide +kernel
theorem dX9_client_94 : decode cX9_client 94 = .ok (.iload_n 2, 1) := by decide +kernel
theorem dX9_client_95 : decode cX9_client 95 = .ok (.iconst 3, 1) := by decide +kernel
theorem dX9_client_96 : decode cX9_client 96 = .ok (.if_icmp .ne 10, 3) := by decide +kernel
theorem dX9_client_99 : decode cX9_client 99 = .ok (.aload_n 0, 1) := by decide +kernel
theorem dX9_client_100 : decode cX9_client 100 = .ok (.getfield 112, 3) := by decide +kernel
theorem dX9_client_103 : decode cX9_client 103 = .ok (.iload_n 1, 1) := by decide +kernel
theorem dX9_client_104 : decode cX9_client 104 = .ok (.iaload, 1) := by decide +kernel
theorem dX9_client_105 : decode cX9_client 105 = .ok (.ireturn, 1) := by decide +kernel
theorem dX9_client_106 : decode cX9_client 106 = .ok (.iload_n 2, 1) := by decide +kernel
theorem dX9_client_107 : decode cX9_client 107 = .ok (.iconst 4, 1) := by decide +kernel
theorem dX9_client_108 : decode cX9_client 108 = .ok (.if_icmp .ne 10, 3) := by decide +kernel
theorem dX9_client_111 : decode cX9_client 111 = .ok (.aload_n 0, 1) := by decide +kernel
theorem dX9_client_112 : decode cX9_client 112 = .ok (.getfield 115, 3) := by decide +kernel
theorem dX9_client_115 : decode cX9_client 115 = .ok (.iload_n 1, 1) := by decide +kernel
theorem dX9_client_116 : decode cX9_client 116 = .ok (.iaload, 1) := by decide +kernel
theorem dX9_client_117 : decode cX9_client 117 = .ok (.ireturn, 1) := by decide +kernel
theorem dX9_client_118 : decode cX9_client 118 = .ok (.aload_n 0, 1) := by decide +kernel
theorem dX9_client_119 : decode cX9_client 119 = .ok (.getfield 76, 3) := by decide +kernel
theorem dX9_client_122 : decode cX9_client 122 = .ok (.iload_n 3, 1) := by decide +kernel
theorem dX9_client_123 : decode cX9_client 123 = .ok (.iaload, 1) := by decide +kernel
theorem dX9_client_124 : decode cX9_client 124 = .ok (.iconst 2, 1) := by decide +kernel
theorem dX9_client_125 : decode cX9_client 125 = .ok (.if_icmp .ne 10, 3) := by decide +kernel
theorem dX9_client_128 : decode cX9_client 128 = .ok (.aload_n 0, 1) := by decide +kernel
theorem dX9_client_129 : decode cX9_client 129 = .ok (.getfield 118, 3) := by decide +kernel
theorem dX9_client_132 : decode cX9_client 132 = .ok (.iload_n 1, 1) := by decide +kernel
theorem dX9_client_133 : decode cX9_client 133 = .ok (.iaload, 1) := by decide +kernel
theorem dX9_client_134 : decode cX9_client 134 = .ok (.ireturn, 1) := by decide +kernel
theorem dX9_client_135 : decode cX9_client 135 = .ok (.aload_n 0, 1) := by decide +kernel
theorem dX9_client_136 : decode cX9_client 136 = .ok (.iload_n 3, 1) := by decide +kernel
theorem dX9_client_137 : decode cX9_client 137 = .ok (.invokevirtual 165, 3) := by decide +kernel
theorem dX9_client_140 : decode cX9_client 140 = .ok (.ifCond .eq 24, 3) := by decide +kernel
theorem dX9_client_143 : decode cX9_client 143 = .ok (.aload_n 0, 1) := by decide +kernel
theorem dX9_client_144 : decode cX9_client 144 = .ok (.getfield 115, 3) := by decide +kernel
theorem dX9_client_147 : decode cX9_client 147 = .ok (.iload_n 1, 1) := by decide +kernel
theorem dX9_client_148 : decode cX9_client 148 = .ok (.iaload, 1) := by decide +kernel
theorem dX9_client_149 : decode cX9_client 149 = .ok (.iconst 2, 1) := by decide +kernel
theorem dX9_client_150 : decode cX9_client 150 = .ok (.if_icmp .ne 14, 3) := by decide +kernel
theorem dX9_client_153 : decode cX9_client 153 = .ok (.aload_n 0, 1) := by decide +kernel
theorem dX9_client_154 : decode cX9_client 154 = .ok (.getfield 127, 3) := by decide +kernel
theorem dX9_client_157 : decode cX9_client 157 = .ok (.iconst 3, 1) := by decide +kernel
theorem dX9_client_158 : decode cX9_client 158 = .ok (.iload_n 1, 1) := by decide +kernel
theorem dX9_client_159 : decode cX9_client 159 = .ok (.imul, 1) := by decide +kernel
theorem dX9_client_160 : decode cX9_client 160 = .ok (.iaload, 1) := by decide +kernel
theorem dX9_client_161 : decode cX9_client 161 = .ok (.goto 4, 3) := by decide +kernel
theorem dX9_client_164 : decode cX9_client 164 = .ok (.iconst 0, 1) := by decide +kernel
theorem dX9_client_165 : decode cX9_client 165 = .ok (.ireturn, 1) := by decide +kernel
theorem dX9_operation_0 : decode cX9_operation 0 = .ok (.aload_n 0, 1) := by decide +kernel
theorem dX9_operation_1 : decode cX9_operation 1 = .ok (.iconst 0, 1) := by decide +kernel
theorem dX9_operation_2 : decode cX9_operation 2 = .ok (.putfield 140, 3) := by decide +kernel
theorem dX9_operation_5 : decode cX9_operation 5 = .ok (.iload_n 1, 1) := by decide +kernel
theorem dX9_operation_6 : decode cX9_operation 6 = .ok (.ifCond .lt 21, 3) := by decide +kernel
theorem dX9_operation_9 : decode cX9_operation 9 = .ok (.iload_n 1, 1) := by decide +kernel
theorem dX9_operation_10 : decode cX9_operation 10 = .ok (.aload_n 0, 1) := by decide +kernel
theorem dX9_operation_11 : decode cX9_operation 11 = .ok (.getfield 152, 3) := by decide +kernel
theorem dX9_operation_14 : decode cX9_operation 14 = .ok (.if_icmp .ge 13, 3) := by decide +kernel
theorem dX9_operation_17 : decode cX9_operation 17 = .ok (.iload_n 2, 1) := by decide +kernel
theorem dX9_operation_18 : decode cX9_operation 18 = .ok (.ifCond .lt 9, 3) := by decide +kernel
theorem dX9_operation_21 : decode cX9_operation 21 = .ok (.iload_n 2, 1) := by decide +kernel
theorem dX9_operation_22 : decode cX9_operation 22 = .ok (.bipush 8, 2) := by decide +kernel
theorem dX9_operation_24 : decode cX9_operation 24 = .ok (.if_icmp .le 6, 3) := by decide +kernel
theorem dX9_operation_27 : decode cX9_operation 27 = .ok (.bipush (-2), 2) := by decide +kernel
theorem dX9_operation_29 : decode cX9_operation 29 = .ok (.ireturn, 1) := by decide +kernel
theorem dX9_operation_30 : decode cX9_operation 30 = .ok (.iload_n 2, 1) := by decide +kernel
theorem dX9_operation_31 : decode cX9_operation 31 = .ok (.ifCond .ne 10, 3) := by decide +kernel
theorem dX9_operation_34 : decode cX9_operation 34 = .ok (.aload_n 0, 1) := by decide +kernel
theorem dX9_operation_35 : decode cX9_operation 35 = .ok (.getfield 76, 3) := by decide +kernel
theorem dX9_operation_38 : decode cX9_operation 38 = .ok (.iload_n 1, 1) := by decide +kernel
theorem dX9_operation_39 : decode cX9_operation 39 = .ok (.iaload, 1) := by decide +kernel
theorem dX9_operation_40 : decode cX9_operation 40 = .ok (.ireturn, 1) := by decide +kernel
theorem dX9_operation_41 : decode cX9_operation 41 = .ok (.iload_n 2, 1) := by decide +kernel
theorem dX9_operation_42 : decode cX9_operation 42 = .ok (.iconst 1, 1) := by decide +kernel
theorem dX9_operation_43 : decode cX9_operation 43 = .ok (.if_icmp .ne 10, 3) := by decide +kernel
theorem dX9_operation_46 : decode cX9_operation 46 = .ok (.aload_n 0, 1) := by decide +kernel
theorem dX9_operation_47 : decode cX9_operation 47 = .ok (.getfield 79, 3) := by decide +kernel
theorem dX9_operation_50 : decode cX9_operation 50 = .ok (.iload_n 1, 1) := by decide +kernel
theorem dX9_operation_51 : decode cX9_operation 51 = .ok (.iaload, 1) := by decide +kernel
theorem dX9_operation_52 : decode cX9_operation 52 = .ok (.ireturn, 1) := by decide +kernel
theorem dX9_operation_53 : decode cX9_operation 53 = .ok (.iload_n 2, 1) := by decide +kernel
theorem dX9_operation_54 : decode cX9_operation 54 = .ok (.iconst 2, 1) := by decide +kernel
theorem dX9_operation_55 : decode cX9_operation 55 = .ok (.if_icmp .ne 10, 3) := by decide +kernel
theorem dX9_operation_58 : decode cX9_operation 58 = .ok (.aload_n 0, 1) := by decide +kernel
theorem dX9_operation_59 : decode cX9_operation 59 = .ok (.getfield 82, 3) := by decide +kernel
theorem dX9_operation_62 : decode cX9_operation 62 = .ok (.iload_n 1, 1) := by decide +kernel
theorem dX9_operation_63 : decode cX9_operation 63 = .ok (.iaload, 1) := by decide +kernel
theorem dX9_operation_64 : decode cX9_operation 64 = .ok (.ireturn, 1) := by decide +kernel
theorem dX9_operation_65 : decode cX9_operation 65 = .ok (.iload_n 2, 1) := by decide +kernel
theorem dX9_operation_66 : decode cX9_operation 66 = .ok (.iconst 3, 1) := by decide +kernel
theorem dX9_operation_67 : decode cX9_operation 67 = .ok (.if_icmp .ne 10, 3) := by decide +kernel
theorem dX9_operation_70 : decode cX9_operation 70 = .ok (.aload_n 0, 1) := by decide +kernel
theorem dX9_operation_71 : decode cX9_operation 71 = .ok (.getfield 85, 3) := by decide +kernel
theorem dX9_operation_74 : decode cX9_operation 74 = .ok (.iload_n 1, 1) := by decide +kernel
theorem dX9_operation_75 : decode cX9_operation 75 = .ok (.iaload, 1) := by decide +kernel
theorem dX9_operation_76 : decode cX9_operation 76 = .ok (.ireturn, 1) := by decide +kernel
theorem dX9_operation_77 : decode cX9_operation 77 = .ok (.iload_n 2, 1) := by decide +kernel
theorem dX9_operation_78 : decode cX9_operation 78 = .ok (.iconst 4, 1) := by decide +kernel
theorem dX9_operation_79 : decode cX9_operation 79 = .ok (.if_icmp .ne 18, 3) := by decide +kernel
theorem dX9_operation_82 : decode cX9_operation 82 = .ok (.aload_n 0, 1) := by decide +kernel
theorem dX9_operation_83 : decode cX9_operation 83 = .ok (.getfield 88, 3) := by decide +kernel
theorem dX9_operation_86 : decode cX9_operation 86 = .ok (.iload_n 1, 1) := by decide +kernel
theorem dX9_operation_87 : decode cX9_operation 87 = .ok (.baload, 1) := by decide +kernel
theorem dX9_operation_88 : decode cX9_operation 88 = .ok (.ifCond .eq 7, 3) := by decide +kernel
theorem dX9_operation_91 : decode cX9_operation 91 = .ok (.iconst 1, 1) := by decide +kernel
theorem dX9_operation_92 : decode cX9_operation 92 = .ok (.goto 4, 3) := by decide +kernel
theorem dX9_operation_95 : decode cX9_operation 95 = .ok (.iconst 0, 1) := by decide +kernel
theorem dX9_operation_96 : decode cX9_operation 96 = .ok (.ireturn, 1) := by decide +kernel
theorem dX9_operation_97 : decode cX9_operation 97 = .ok (.iload_n 2, 1) := by decide +kernel
theorem dX9_operation_98 : decode cX9_operation 98 = .ok (.iconst 5, 1) := by decide +kernel
theorem dX9_operation_99 : decode cX9_operation 99 = .ok (.if_icmp .ne 10, 3) := by decide +kernel
theorem dX9_operation_102 : decode cX9_operation 102 = .ok (.aload_n 0, 1) := by decide +kernel
theorem dX9_operation_103 : decode cX9_operation 103 = .ok (.getfield 91, 3) := by decide +kernel
theorem dX9_operation_106 : decode cX9_operation 106 = .ok (.iload_n 1, 1) := by decide +kernel
theorem dX9_operation_107 : decode cX9_operation 107 = .ok (.iaload, 1) := by decide +kernel
theorem dX9_operation_108 : decode cX9_operation 108 = .ok (.ireturn, 1) := by decide +kernel
theorem dX9_operation_109 : decode cX9_operation 109 = .ok (.iload_n 2, 1) := by decide +kernel
theorem dX9_operation_110 : decode cX9_operation 110 = .ok (.bipush 6, 2) := by decide +kernel
theorem dX9_operation_112 : decode cX9_operation 112 = .ok (.if_icmp .ne 10, 3) := by decide +kernel
theorem dX9_operation_115 : decode cX9_operation 115 = .ok (.aload_n 0, 1) := by decide +kernel
theorem dX9_operation_116 : decode cX9_operation 116 = .ok (.getfield 94, 3) := by decide +kernel
theorem dX9_operation_119 : decode cX9_operation 119 = .ok (.iload_n 1, 1) := by decide +kernel
theorem dX9_operation_120 : decode cX9_operation 120 = .ok (.iaload, 1) := by decide +kernel
theorem dX9_operation_121 : decode cX9_operation 121 = .ok (.ireturn, 1) := by decide +kernel
theorem dX9_operation_122 : decode cX9_operation 122 = .ok (.iload_n 2, 1) := by decide +kernel
theorem dX9_operation_123 : decode cX9_operation 123 = .ok (.bipush 7, 2) := by decide +kernel
theorem dX9_operation_125 : decode cX9_operation 125 = .ok (.if_icmp .ne 12, 3) := by decide +kernel
theorem dX9_operation_128 : decode cX9_operation 128 = .ok (.aload_n 0, 1) := by decide +kernel
theorem dX9_operation_129 : decode cX9_operation 129 = .ok (.getfield 97, 3) := by decide +kernel
theorem dX9_operation_132 : decode cX9_operation 132 = .ok (.iload_n 1, 1) := by decide +kernel
theorem dX9_operation_133 : decode cX9_operation 133 = .ok (.iaload, 1) := by decide +kernel
theorem dX9_operation_134 : decode cX9_operation 134 = .ok (.goto 9, 3) := by decide +kernel
theorem dX9_operation_137 : decode cX9_operation 137 = .ok (.aload_n 0, 1) := by decide +kernel
theorem dX9_operation_138 : decode cX9_operation 138 = .ok (.getfield 100, 3) := by decide +kernel
theorem dX9_operation_141 : decode cX9_operation 141 = .ok (.iload_n 1, 1) := by decide +kernel
theorem dX9_operation_142 : decode cX9_operation 142 = .ok (.iaload, 1) := by decide +kernel
theorem dX9_operation_143 : decode cX9_operation 143 = .ok (.ireturn, 1) := by decide +kernel
theorem dX9_count_0 : decode cX9_count 0 = .ok (.aload_n 0, 1) := by decide +kernel
theorem dX9_count_1 : decode cX9_count 1 = .ok (.iconst 0, 1) := by decide +kernel
theorem dX9_count_2 : decode cX9_count 2 = .ok (.putfield 140, 3) := by decide +kernel
theorem dX9_count_5 : decode cX9_count 5 = .ok (.iload_n 1, 1) := by decide +kernel
theorem dX9_count_6 : decode cX9_count 6 = .ok (.ifCond .ne 8, 3) := by decide +kernel
theorem dX9_count_9 : decode cX9_count 9 = .ok (.aload_n 0, 1) := by decide +kernel
theorem dX9_count_10 : decode cX9_count 10 = .ok (.getfield 152, 3) := by decide +kernel
theorem dX9_count_13 : decode cX9_count 13 = .ok (.ireturn, 1) := by decide +kernel
theorem dX9_count_14 : decode cX9_count 14 = .ok (.iload_n 1, 1) := by decide +kernel
theorem dX9_count_15 : decode cX9_count 15 = .ok (.iconst 1, 1) := by decide +kernel
theorem dX9_count_16 : decode cX9_count 16 = .ok (.if_icmp .ne 8, 3) := by decide +kernel
theorem dX9_count_19 : decode cX9_count 19 = .ok (.aload_n 0, 1) := by decide +kernel
theorem dX9_count_20 : decode cX9_count 20 = .ok (.getfield 155, 3) := by decide +kernel
theorem dX9_count_23 : decode cX9_count 23 = .ok (.ireturn, 1) := by decide +kernel
theorem dX9_count_24 : decode cX9_count 24 = .ok (.iload_n 1, 1) := by decide +kernel
theorem dX9_count_25 : decode cX9_count 25 = .ok (.iconst 2, 1) := by decide +kernel
theorem dX9_count_26 : decode cX9_count 26 = .ok (.if_icmp .ne 8, 3) := by decide +kernel
theorem dX9_count_29 : decode cX9_count 29 = .ok (.aload_n 0, 1) := by decide +kernel
theorem dX9_count_30 : decode cX9_count 30 = .ok (.getfield 158, 3) := by decide +kernel
theorem dX9_count_33 : decode cX9_count 33 = .ok (.ireturn, 1) := by decide +kernel
theorem dX9_count_34 : decode cX9_count 34 = .ok (.iload_n 1, 1) := by decide +kernel
theorem dX9_count_35 : decode cX9_count 35 = .ok (.iconst 3, 1) := by decide +kernel
theorem dX9_count_36 : decode cX9_count 36 = .ok (.if_icmp .ne 8, 3) := by decide +kernel
theorem dX9_count_39 : decode cX9_count 39 = .ok (.aload_n 0, 1) := by decide +kernel
theorem dX9_count_40 : decode cX9_count 40 = .ok (.getfield 146, 3) := by decide +kernel
theorem dX9_count_43 : decode cX9_count 43 = .ok (.ireturn, 1) := by decide +kernel
theorem dX9_count_44 : decode cX9_count 44 = .ok (.iload_n 1, 1) := by decide +kernel
theorem dX9_count_45 : decode cX9_count 45 = .ok (.iconst 4, 1) := by decide +kernel
theorem dX9_count_46 : decode cX9_count 46 = .ok (.if_icmp .ne 10, 3) := by decide +kernel
theorem dX9_count_49 : decode cX9_count 49 = .ok (.aload_n 0, 1) := by decide +kernel
theorem dX9_count_50 : decode cX9_count 50 = .ok (.getfield 149, 3) := by decide +kernel
theorem dX9_count_53 : decode cX9_count 53 = .ok (.goto 4, 3) := by decide +kernel
theorem dX9_count_56 : decode cX9_count 56 = .ok (.iconst (-1), 1) := by decide +kernel
theorem dX9_count_57 : decode cX9_count 57 = .ok (.ireturn, 1) := by decide +kernel
theorem dX9_atomic_0 : decode cX9_atomic 0 = .ok (.aload_n 0, 1) := by decide +kernel
theorem dX9_atomic_1 : decode cX9_atomic 1 = .ok (.iconst 0, 1) := by decide +kernel
theorem dX9_atomic_2 : decode cX9_atomic 2 = .ok (.putfield 140, 3) := by decide +kernel
theorem dX9_atomic_5 : decode cX9_atomic 5 = .ok (.aload_n 0, 1) := by decide +kernel
theorem dX9_atomic_6 : decode cX9_atomic 6 = .ok (.iload_n 1, 1) := by decide +kernel
theorem dX9_atomic_7 : decode cX9_atomic 7 = .ok (.invokevirtual 207, 3) := by decide +kernel
theorem dX9_atomic_10 : decode cX9_atomic 10 = .ok (.ifCond .ne 5, 3) := by decide +kernel
theorem dX9_atomic_13 : decode cX9_atomic 13 = .ok (.iconst (-1), 1) := by decide +kernel
theorem dX9_atomic_14 : decode cX9_atomic 14 = .ok (.ireturn, 1) := by decide +kernel
theorem dX9_atomic_15 : decode cX9_atomic 15 = .ok (.aload_n 0, 1) := by decide +kernel
theorem dX9_atomic_16 : decode cX9_atomic 16 = .ok (.iconst 0, 1) := by decide +kernel
theorem dX9_atomic_17 : decode cX9_atomic 17 = .ok (.putfield 306, 3) := by decide +kernel
theorem dX9_atomic_20 : decode cX9_atomic 20 = .ok (.iconst 0, 1) := by decide +kernel
theorem dX9_atomic_21 : decode cX9_atomic 21 = .ok (.istore_n 2, 1) := by decide +kernel
theorem dX9_atomic_22 : decode cX9_atomic 22 = .ok (.iconst 0, 1) := by decide +kernel
theorem dX9_atomic_23 : decode cX9_atomic 23 = .ok (.istore_n 3, 1) := by decide +kernel
theorem dX9_atomic_24 : decode cX9_atomic 24 = .ok (.iload_n 3, 1) := by decide +kernel
theorem dX9_atomic_25 : decode cX9_atomic 25 = .ok (.aload_n 0, 1) := by decide +kernel
theorem dX9_atomic_26 : decode cX9_atomic 26 = .ok (.getfield 152, 3) := by decide +kernel
theorem dX9_atomic_29 : decode cX9_atomic 29 = .ok (.if_icmp .ge 31, 3) := by decide +kernel
theorem dX9_atomic_32 : decode cX9_atomic 32 = .ok (.aload_n 0, 1) := by decide +kernel
theorem dX9_atomic_33 : decode cX9_atomic 33 = .ok (.iload_n 3, 1) := by decide +kernel
theorem dX9_atomic_34 : decode cX9_atomic 34 = .ok (.invokevirtual 165, 3) := by decide +kernel
theorem dX9_atomic_37 : decode cX9_atomic 37 = .ok (.ifCond .eq 17, 3) := by decide +kernel
theorem dX9_atomic_40 : decode cX9_atomic 40 = .ok (.aload_n 0, 1) := by decide +kernel
theorem dX9_atomic_41 : decode cX9_atomic 41 = .ok (.getfield 82, 3) := by decide +kernel
theorem dX9_atomic_44 : decode cX9_atomic 44 = .ok (.iload_n 3, 1) := by decide +kernel
theorem dX9_atomic_45 : decode cX9_atomic 45 = .ok (.iaload, 1) := by decide +kernel
theorem dX9_atomic_46 : decode cX9_atomic 46 = .ok (.iload_n 1, 1) := by decide +kernel
theorem dX9_atomic_47 : decode cX9_atomic 47 = .ok (.if_icmp .ne 7, 3) := by decide +kernel
theorem dX9_atomic_50 : decode cX9_atomic 50 = .ok (.iload_n 2, 1) := by decide +kernel
theorem dX9_atomic_51 : decode cX9_atomic 51 = .ok (.iconst 1, 1) := by decide +kernel
theorem dX9_atomic_52 : decode cX9_atomic 52 = .ok (.iadd, 1) := by decide +kernel
theorem dX9_atomic_53 : decode cX9_atomic 53 = .ok (.istore_n 2, 1) := by decide +kernel
theorem dX9_atomic_54 : decode cX9_atomic 54 = .ok (.iinc 3 1, 3) := by decide +kernel
theorem dX9_atomic_57 : decode cX9_atomic 57 = .ok (.goto (-33), 3) := by decide +kernel
theorem dX9_atomic_60 : decode cX9_atomic 60 = .ok (.iload_n 2, 1) := by decide +kernel
theorem dX9_atomic_61 : decode cX9_atomic 61 = .ok (.bipush 14, 2) := by decide +kernel
theorem dX9_atomic_63 : decode cX9_atomic 63 = .ok (.if_icmp .le 5, 3) := by decide +kernel
theorem dX9_atomic_66 : decode cX9_atomic 66 = .ok (.iconst (-1), 1) := by decide +kernel
theorem dX9_atomic_67 : decode cX9_atomic 67 = .ok (.ireturn, 1) := by decide +kernel
theorem dX9_atomic_68 : decode cX9_atomic 68 = .ok (.iconst 0, 1) := by decide +kernel
theorem dX9_atomic_69 : decode cX9_atomic 69 = .ok (.istore_n 3, 1) := by decide +kernel
theorem dX9_atomic_70 : decode cX9_atomic 70 = .ok (.iconst 0, 1) := by decide +kernel
theorem dX9_atomic_71 : decode cX9_atomic 71 = .ok (.istore 4, 2) := by decide +kernel
theorem dX9_atomic_73 : decode cX9_atomic 73 = .ok (.iload 4, 2) := by decide +kernel
theorem dX9_atomic_75 : decode cX9_atomic 75 = .ok (.aload_n 0, 1) := by decide +kernel
theorem dX9_atomic_76 : decode cX9_atomic 76 = .ok (.getfield 152, 3) := by decide +kernel
theorem dX9_atomic_79 : decode cX9_atomic 79 = .ok (.if_icmp .ge 92, 3) := by decide +kernel
theorem dX9_atomic_82 : decode cX9_atomic 82 = .ok (.aload_n 0, 1) := by decide +kernel
theorem dX9_atomic_83 : decode cX9_atomic 83 = .ok (.iload 4, 2) := by decide +kernel
theorem dX9_atomic_85 : decode cX9_atomic 85 = .ok (.invokevirtual 165, 3) := by decide +kernel
theorem dX9_atomic_88 : decode cX9_atomic 88 = .ok (.ifCond .eq 77, 3) := by decide +kernel
theorem dX9_atomic_91 : decode cX9_atomic 91 = .ok (.aload_n 0, 1) := by decide +kernel
theorem dX9_atomic_92 : decode cX9_atomic 92 = .ok (.getfield 82, 3) := by decide +kernel
theorem dX9_atomic_95 : decode cX9_atomic 95 = .ok (.iload 4, 2) := by decide +kernel
theorem dX9_atomic_97 : decode cX9_atomic 97 = .ok (.iaload, 1) := by decide +kernel
theorem dX9_atomic_98 : decode cX9_atomic 98 = .ok (.iload_n 1, 1) := by decide +kernel
theorem dX9_atomic_99 : decode cX9_atomic 99 = .ok (.if_icmp .ne 66, 3) := by decide +kernel
theorem dX9_atomic_102 : decode cX9_atomic 102 = .ok (.aload_n 0, 1) := by decide +kernel
theorem dX9_atomic_103 : decode cX9_atomic 103 = .ok (.getfield 76, 3) := by decide +kernel
theorem dX9_atomic_106 : decode cX9_atomic 106 = .ok (.iload 4, 2) := by decide +kernel
theorem dX9_atomic_108 : decode cX9_atomic 108 = .ok (.iaload, 1) := by decide +kernel
theorem dX9_atomic_109 : decode cX9_atomic 109 = .ok (.ifCond .ne 16, 3) := by decide +kernel
theorem dX9_atomic_112 : decode cX9_atomic 112 = .ok (.aload_n 0, 1) := by decide +kernel
theorem dX9_atomic_113 : decode cX9_atomic 113 = .ok (.getfield 88, 3) := by decide +kernel
theorem dX9_atomic_116 : decode cX9_atomic 116 = .ok (.iload 4, 2) := by decide +kernel
theorem dX9_atomic_118 : decode cX9_atomic 118 = .ok (.baload, 1) := by decide +kernel
theorem dX9_atomic_119 : decode cX9_atomic 119 = .ok (.ifCond .ne 6, 3) := by decide +kernel
theorem dX9_atomic_122 : decode cX9_atomic 122 = .ok (.goto 43, 3) := by decide +kernel
theorem dX9_atomic_125 : decode cX9_atomic 125 = .ok (.aload_n 0, 1) := by decide +kernel
theorem dX9_atomic_126 : decode cX9_atomic 126 = .ok (.getfield 133, 3) := by decide +kernel
theorem dX9_atomic_129 : decode cX9_atomic 129 = .ok (.aload_n 0, 1) := by decide +kernel
theorem dX9_atomic_130 : decode cX9_atomic 130 = .ok (.getfield 306, 3) := by decide +kernel
theorem dX9_atomic_133 : decode cX9_atomic 133 = .ok (.iload 4, 2) := by decide +kernel
theorem dX9_atomic_135 : decode cX9_atomic 135 = .ok (.iastore, 1) := by decide +kernel
theorem dX9_atomic_136 : decode cX9_atomic 136 = .ok (.aload_n 0, 1) := by decide +kernel
theorem dX9_atomic_137 : decode cX9_atomic 137 = .ok (.getfield 88, 3) := by decide +kernel
theorem dX9_atomic_140 : decode cX9_atomic 140 = .ok (.iload 4, 2) := by decide +kernel
theorem dX9_atomic_142 : decode cX9_atomic 142 = .ok (.baload, 1) := by decide +kernel
theorem dX9_atomic_143 : decode cX9_atomic 143 = .ok (.ifCond .eq 12, 3) := by decide +kernel
theorem dX9_atomic_146 : decode cX9_atomic 146 = .ok (.iload_n 3, 1) := by decide +kernel
theorem dX9_atomic_147 : decode cX9_atomic 147 = .ok (.iconst 1, 1) := by decide +kernel
theorem dX9_atomic_148 : decode cX9_atomic 148 = .ok (.aload_n 0, 1) := by decide +kernel
theorem dX9_atomic_149 : decode cX9_atomic 149 = .ok (.getfield 306, 3) := by decide +kernel
theorem dX9_atomic_152 : decode cX9_atomic 152 = .ok (.ishl, 1) := by decide +kernel
theorem dX9_atomic_153 : decode cX9_atomic 153 = .ok (.ior, 1) := by decide +kernel
theorem dX9_atomic_154 : decode cX9_atomic 154 = .ok (.istore_n 3, 1) := by decide +kernel
theorem dX9_atomic_155 : decode cX9_atomic 155 = .ok (.aload_n 0, 1) := by decide +kernel
theorem dX9_atomic_156 : decode cX9_atomic 156 = .ok (.aload_n 0, 1) := by decide +kernel
theorem dX9_atomic_157 : decode cX9_atomic 157 = .ok (.getfield 306, 3) := by decide +kernel
theorem dX9_atomic_160 : decode cX9_atomic 160 = .ok (.iconst 1, 1) := by decide +kernel
theorem dX9_atomic_161 : decode cX9_atomic 161 = .ok (.iadd, 1) := by decide +kernel
theorem dX9_atomic_162 : decode cX9_atomic 162 = .ok (.putfield 306, 3) := by decide +kernel
theorem dX9_atomic_165 : decode cX9_atomic 165 = .ok (.iinc 4 1, 3) := by decide +kernel
theorem dX9_atomic_168 : decode cX9_atomic 168 = .ok (.goto (-95), 3) := by decide +kernel
theorem dX9_atomic_171 : decode cX9_atomic 171 = .ok (.iconst 0, 1) := by decide +kernel
theorem dX9_atomic_172 : decode cX9_atomic 172 = .ok (.istore 4, 2) := by decide +kernel
theorem dX9_atomic_174 : decode cX9_atomic 174 = .ok (.iload 4, 2) := by decide +kernel
theorem dX9_atomic_176 : decode cX9_atomic 176 = .ok (.bipush 15, 2) := by decide +kernel
theorem dX9_atomic_178 : decode cX9_atomic 178 = .ok (.aload_n 0, 1) := by decide +kernel
theorem dX9_atomic_179 : decode cX9_atomic 179 = .ok (.getfield 306, 3) := by decide +kernel
theorem dX9_atomic_182 : decode cX9_atomic 182 = .ok (.ishl, 1) := by decide +kernel
theorem dX9_atomic_183 : decode cX9_atomic 183 = .ok (.if_icmp .ge 17, 3) := by decide +kernel
theorem dX9_atomic_186 : decode cX9_atomic 186 = .ok (.aload_n 0, 1) := by decide +kernel
theorem dX9_atomic_187 : decode cX9_atomic 187 = .ok (.getfield 137, 3) := by decide +kernel
theorem dX9_atomic_190 : decode cX9_atomic 190 = .ok (.iload 4, 2) := by decide +kernel
theorem dX9_atomic_192 : decode cX9_atomic 192 = .ok (.iconst 0, 1) := by decide +kernel
theorem dX9_atomic_193 : decode cX9_atomic 193 = .ok (.bastore, 1) := by decide +kernel
theorem dX9_atomic_194 : decode cX9_atomic 194 = .ok (.iinc 4 1, 3) := by decide +kernel
theorem dX9_atomic_197 : decode cX9_atomic 197 = .ok (.goto (-23), 3) := by decide +kernel
theorem dX9_atomic_200 : decode cX9_atomic 200 = .ok (.aload_n 0, 1) := by decide +kernel
theorem dX9_atomic_201 : decode cX9_atomic 201 = .ok (.getfield 137, 3) := by decide +kernel
theorem dX9_atomic_204 : decode cX9_atomic 204 = .ok (.bipush 14, 2) := by decide +kernel
theorem dX9_atomic_206 : decode cX9_atomic 206 = .ok (.iconst 1, 1) := by decide +kernel
theorem dX9_atomic_207 : decode cX9_atomic 207 = .ok (.bastore, 1) := by decide +kernel
theorem dX9_atomic_208 : decode cX9_atomic 208 = .ok (.iconst 0, 1) := by decide +kernel
theorem dX9_atomic_209 : decode cX9_atomic 209 = .ok (.istore 4, 2) := by decide +kernel
theorem dX9_atomic_211 : decode cX9_atomic 211 = .ok (.iload 4, 2) := by decide +kernel
theorem dX9_atomic_213 : decode cX9_atomic 213 = .ok (.iconst 1, 1) := by decide +kernel
theorem dX9_atomic_214 : decode cX9_atomic 214 = .ok (.aload_n 0, 1) := by decide +kernel
theorem dX9_atomic_215 : decode cX9_atomic 215 = .ok (.getfield 306, 3) := by decide +kernel
theorem dX9_atomic_218 : decode cX9_atomic 218 = .ok (.ishl, 1) := by decide +kernel
theorem dX9_atomic_219 : decode cX9_atomic 219 = .ok (.if_icmp .ge 126, 3) := by decide +kernel
theorem dX9_atomic_222 : decode cX9_atomic 222 = .ok (.iconst 0, 1) := by decide +kernel
theorem dX9_atomic_223 : decode cX9_atomic 223 = .ok (.istore 5, 2) := by decide +kernel
theorem dX9_atomic_225 : decode cX9_atomic 225 = .ok (.iload 5, 2) := by decide +kernel
theorem dX9_atomic_227 : decode cX9_atomic 227 = .ok (.bipush 15, 2) := by decide +kernel
theorem dX9_atomic_229 : decode cX9_atomic 229 = .ok (.if_icmp .ge 110, 3) := by decide +kernel
theorem dX9_atomic_232 : decode cX9_atomic 232 = .ok (.aload_n 0, 1) := by decide +kernel
theorem dX9_atomic_233 : decode cX9_atomic 233 = .ok (.getfield 137, 3) := by decide +kernel
theorem dX9_atomic_236 : decode cX9_atomic 236 = .ok (.bipush 15, 2) := by decide +kernel
theorem dX9_atomic_238 : decode cX9_atomic 238 = .ok (.iload 4, 2) := by decide +kernel
theorem dX9_atomic_240 : decode cX9_atomic 240 = .ok (.imul, 1) := by decide +kernel
theorem dX9_atomic_241 : decode cX9_atomic 241 = .ok (.iload 5, 2) := by decide +kernel
theorem dX9_atomic_243 : decode cX9_atomic 243 = .ok (.iadd, 1) := by decide +kernel
theorem dX9_atomic_244 : decode cX9_atomic 244 = .ok (.baload, 1) := by decide +kernel
theorem dX9_atomic_245 : decode cX9_atomic 245 = .ok (.ifCond .ne 6, 3) := by decide +kernel
theorem dX9_atomic_248 : decode cX9_atomic 248 = .ok (.goto 85, 3) := by decide +kernel
theorem dX9_atomic_251 : decode cX9_atomic 251 = .ok (.iload_n 3, 1) := by decide +kernel
theorem dX9_atomic_252 : decode cX9_atomic 252 = .ok (.iload 4, 2) := by decide +kernel
theorem dX9_atomic_254 : decode cX9_atomic 254 = .ok (.iconst (-1), 1) := by decide +kernel
theorem dX9_atomic_255 : decode cX9_atomic 255 = .ok (.ixor, 1) := by decide +kernel
theorem dX9_atomic_256 : decode cX9_atomic 256 = .ok (.iand, 1) := by decide +kernel
theorem dX9_atomic_257 : decode cX9_atomic 257 = .ok (.ifCond .ne 5, 3) := by decide +kernel
theorem dX9_atomic_260 : decode cX9_atomic 260 = .ok (.iconst 1, 1) := by decide +kernel
theorem dX9_atomic_261 : decode cX9_atomic 261 = .ok (.ireturn, 1) := by decide +kernel
theorem dX9_atomic_262 : decode cX9_atomic 262 = .ok (.iconst 0, 1) := by decide +kernel
theorem dX9_atomic_263 : decode cX9_atomic 263 = .ok (.istore 6, 2) := by decide +kernel
theorem dX9_atomic_265 : decode cX9_atomic 265 = .ok (.iload 6, 2) := by decide +kernel
theorem dX9_atomic_267 : decode cX9_atomic 267 = .ok (.aload_n 0, 1) := by decide +kernel
theorem dX9_atomic_268 : decode cX9_atomic 268 = .ok (.getfield 306, 3) := by decide +kernel
theorem dX9_atomic_271 : decode cX9_atomic 271 = .ok (.if_icmp .ge 62, 3) := by decide +kernel
theorem dX9_atomic_274 : decode cX9_atomic 274 = .ok (.aload_n 0, 1) := by decide +kernel
theorem dX9_atomic_275 : decode cX9_atomic 275 = .ok (.iload 4, 2) := by decide +kernel
theorem dX9_atomic_277 : decode cX9_atomic 277 = .ok (.iload 5, 2) := by decide +kernel
theorem dX9_atomic_279 : decode cX9_atomic 279 = .ok (.iload 6, 2) := by decide +kernel
theorem dX9_atomic_281 : decode cX9_atomic 281 = .ok (.invokevirtual 309, 3) := by decide +kernel
theorem dX9_atomic_284 : decode cX9_atomic 284 = .ok (.ifCond .eq 43, 3) := by decide +kernel
theorem dX9_atomic_287 : decode cX9_atomic 287 = .ok (.aload_n 0, 1) := by decide +kernel
theorem dX9_atomic_288 : decode cX9_atomic 288 = .ok (.getfield 137, 3) := by decide +kernel
theorem dX9_atomic_291 : decode cX9_atomic 291 = .ok (.bipush 15, 2) := by decide +kernel
theorem dX9_atomic_293 : decode cX9_atomic 293 = .ok (.iload 4, 2) := by decide +kernel
theorem dX9_atomic_295 : decode cX9_atomic 295 = .ok (.iconst 1, 1) := by decide +kernel
theorem dX9_atomic_296 : decode cX9_atomic 296 = .ok (.iload 6, 2) := by decide +kernel
theorem dX9_atomic_298 : decode cX9_atomic 298 = .ok (.ishl, 1) := by decide +kernel
theorem dX9_atomic_299 : decode cX9_atomic 299 = .ok (.ior, 1) := by decide +kernel
theorem dX9_atomic_300 : decode cX9_atomic 300 = .ok (.imul, 1) := by decide +kernel
theorem dX9_atomic_301 : decode cX9_atomic 301 = .ok (.aload_n 0, 1) := by decide +kernel
theorem dX9_atomic_302 : decode cX9_atomic 302 = .ok (.getfield 76, 3) := by decide +kernel
theorem dX9_atomic_305 : decode cX9_atomic 305 = .ok (.aload_n 0, 1) := by decide +kernel
theorem dX9_atomic_306 : decode cX9_atomic 306 = .ok (.getfield 133, 3) := by decide +kernel
theorem dX9_atomic_309 : decode cX9_atomic 309 = .ok (.iload 6, 2) := by decide +kernel
theorem dX9_atomic_311 : decode cX9_atomic 311 = .ok (.iaload, 1) := by decide +kernel
theorem dX9_atomic_312 : decode cX9_atomic 312 = .ok (.iaload, 1) := by decide +kernel
theorem dX9_atomic_313 : decode cX9_atomic 313 = .ok (.iconst 1, 1) := by decide +kernel
theorem dX9_atomic_314 : decode cX9_atomic 314 = .ok (.if_icmp .ne 8, 3) := by decide +kernel
theorem dX9_atomic_317 : decode cX9_atomic 317 = .ok (.iload 6, 2) := by decide +kernel
theorem dX9_atomic_319 : decode cX9_atomic 319 = .ok (.goto 5, 3) := by decide +kernel
theorem dX9_atomic_322 : decode cX9_atomic 322 = .ok (.iload 5, 2) := by decide +kernel
theorem dX9_atomic_324 : decode cX9_atomic 324 = .ok (.iadd, 1) := by decide +kernel
theorem dX9_atomic_325 : decode cX9_atomic 325 = .ok (.iconst 1, 1) := by decide +kernel
theorem dX9_atomic_326 : decode cX9_atomic 326 = .ok (.bastore, 1) := by decide +kernel
theorem dX9_atomic_327 : decode cX9_atomic 327 = .ok (.iinc 6 1, 3) := by decide +kernel
theorem dX9_atomic_330 : decode cX9_atomic 330 = .ok (.goto (-65), 3) := by decide +kernel
theorem dX9_atomic_333 : decode cX9_atomic 333 = .ok (.iinc 5 1, 3) := by decide +kernel
theorem dX9_atomic_336 : decode cX9_atomic 336 = .ok (.goto (-111), 3) := by decide +kernel
theorem dX9_atomic_339 : decode cX9_atomic 339 = .ok (.iinc 4 1, 3) := by decide +kernel
theorem dX9_atomic_342 : decode cX9_atomic 342 = .ok (.goto (-131), 3) := by decide +kernel
theorem dX9_atomic_345 : decode cX9_atomic 345 = .ok (.iconst 0, 1) := by decide +kernel
theorem dX9_atomic_346 : decode cX9_atomic 346 = .ok (.ireturn, 1) := by decide +kernel
theorem dX9_goesNext_0 : decode cX9_goesNext 0 = .ok (.iload_n 1, 1) := by decide +kernel
theorem dX9_goesNext_1 : decode cX9_goesNext 1 = .ok (.iload_n 3, 1) := by decide +kernel
theorem dX9_goesNext_2 : decode cX9_goesNext 2 = .ok (.ishr, 1) := by decide +kernel
theorem dX9_goesNext_3 : decode cX9_goesNext 3 = .ok (.iconst 1, 1) := by decide +kernel
theorem dX9_goesNext_4 : decode cX9_goesNext 4 = .ok (.iand, 1) := by decide +kernel
theorem dX9_goesNext_5 : decode cX9_goesNext 5 = .ok (.iconst 1, 1) := by decide +kernel
theorem dX9_goesNext_6 : decode cX9_goesNext 6 = .ok (.if_icmp .ne 5, 3) := by decide +kernel
theorem dX9_goesNext_9 : decode cX9_goesNext 9 = .ok (.iconst 0, 1) := by decide +kernel
theorem dX9_goesNext_10 : decode cX9_goesNext 10 = .ok (.ireturn, 1) := by decide +kernel
theorem dX9_goesNext_11 : decode cX9_goesNext 11 = .ok (.aload_n 0, 1) := by decide +kernel
theorem dX9_goesNext_12 : decode cX9_goesNext 12 = .ok (.getfield 133, 3) := by decide +kernel
theorem dX9_goesNext_15 : decode cX9_goesNext 15 = .ok (.iload_n 3, 1) := by decide +kernel
theorem dX9_goesNext_16 : decode cX9_goesNext 16 = .ok (.iaload, 1) := by decide +kernel
theorem dX9_goesNext_17 : decode cX9_goesNext 17 = .ok (.istore 4, 2) := by decide +kernel
theorem dX9_goesNext_19 : decode cX9_goesNext 19 = .ok (.iconst 0, 1) := by decide +kernel
theorem dX9_goesNext_20 : decode cX9_goesNext 20 = .ok (.istore 5, 2) := by decide +kernel
theorem dX9_goesNext_22 : decode cX9_goesNext 22 = .ok (.iload 5, 2) := by decide +kernel
theorem dX9_goesNext_24 : decode cX9_goesNext 24 = .ok (.aload_n 0, 1) := by decide +kernel
theorem dX9_goesNext_25 : decode cX9_goesNext 25 = .ok (.getfield 306, 3) := by decide +kernel
theorem dX9_goesNext_28 : decode cX9_goesNext 28 = .ok (.if_icmp .ge 63, 3) := by decide +kernel
theorem dX9_goesNext_31 : decode cX9_goesNext 31 = .ok (.iload_n 1, 1) := by decide +kernel
theorem dX9_goesNext_32 : decode cX9_goesNext 32 = .ok (.iload 5, 2) := by decide +kernel
theorem dX9_goesNext_34 : decode cX9_goesNext 34 = .ok (.ishr, 1) := by decide +kernel
theorem dX9_goesNext_35 : decode cX9_goesNext 35 = .ok (.iconst 1, 1) := by decide +kernel
theorem dX9_goesNext_36 : decode cX9_goesNext 36 = .ok (.iand, 1) := by decide +kernel
theorem dX9_goesNext_37 : decode cX9_goesNext 37 = .ok (.ifCond .ne 48, 3) := by decide +kernel
theorem dX9_goesNext_40 : decode cX9_goesNext 40 = .ok (.iload 5, 2) := by decide +kernel
theorem dX9_goesNext_42 : decode cX9_goesNext 42 = .ok (.iload_n 3, 1) := by decide +kernel
theorem dX9_goesNext_43 : decode cX9_goesNext 43 = .ok (.if_icmp .eq 42, 3) := by decide +kernel
theorem dX9_goesNext_46 : decode cX9_goesNext 46 = .ok (.aload_n 0, 1) := by decide +kernel
theorem dX9_goesNext_47 : decode cX9_goesNext 47 = .ok (.getfield 88, 3) := by decide +kernel
theorem dX9_goesNext_50 : decode cX9_goesNext 50 = .ok (.aload_n 0, 1) := by decide +kernel
theorem dX9_goesNext_51 : decode cX9_goesNext 51 = .ok (.getfield 133, 3) := by decide +kernel
theorem dX9_goesNext_54 : decode cX9_goesNext 54 = .ok (.iload 5, 2) := by decide +kernel
theorem dX9_goesNext_56 : decode cX9_goesNext 56 = .ok (.iaload, 1) := by decide +kernel
theorem dX9_goesNext_57 : decode cX9_goesNext 57 = .ok (.baload, 1) := by decide +kernel
theorem dX9_goesNext_58 : decode cX9_goesNext 58 = .ok (.ifCond .eq 27, 3) := by decide +kernel
theorem dX9_goesNext_61 : decode cX9_goesNext 61 = .ok (.aload_n 0, 1) := by decide +kernel
theorem dX9_goesNext_62 : decode cX9_goesNext 62 = .ok (.getfield 97, 3) := by decide +kernel
theorem dX9_goesNext_65 : decode cX9_goesNext 65 = .ok (.aload_n 0, 1) := by decide +kernel
theorem dX9_goesNext_66 : decode cX9_goesNext 66 = .ok (.getfield 133, 3) := by decide +kernel
theorem dX9_goesNext_69 : decode cX9_goesNext 69 = .ok (.iload 5, 2) := by decide +kernel
theorem dX9_goesNext_71 : decode cX9_goesNext 71 = .ok (.iaload, 1) := by decide +kernel
theorem dX9_goesNext_72 : decode cX9_goesNext 72 = .ok (.iaload, 1) := by decide +kernel
theorem dX9_goesNext_73 : decode cX9_goesNext 73 = .ok (.aload_n 0, 1) := by decide +kernel
theorem dX9_goesNext_74 : decode cX9_goesNext 74 = .ok (.getfield 94, 3) := by decide +kernel
theorem dX9_goesNext_77 : decode cX9_goesNext 77 = .ok (.iload 4, 2) := by decide +kernel
theorem dX9_goesNext_79 : decode cX9_goesNext 79 = .ok (.iaload, 1) := by decide +kernel
theorem dX9_goesNext_80 : decode cX9_goesNext 80 = .ok (.if_icmp .ge 5, 3) := by decide +kernel
theorem dX9_goesNext_83 : decode cX9_goesNext 83 = .ok (.iconst 0, 1) := by decide +kernel
theorem dX9_goesNext_84 : decode cX9_goesNext 84 = .ok (.ireturn, 1) := by decide +kernel
theorem dX9_goesNext_85 : decode cX9_goesNext 85 = .ok (.iinc 5 1, 3) := by decide +kernel
theorem dX9_goesNext_88 : decode cX9_goesNext 88 = .ok (.goto (-66), 3) := by decide +kernel
theorem dX9_goesNext_91 : decode cX9_goesNext 91 = .ok (.aload_n 0, 1) := by decide +kernel
theorem dX9_goesNext_92 : decode cX9_goesNext 92 = .ok (.getfield 76, 3) := by decide +kernel
theorem dX9_goesNext_95 : decode cX9_goesNext 95 = .ok (.iload 4, 2) := by decide +kernel
theorem dX9_goesNext_97 : decode cX9_goesNext 97 = .ok (.iaload, 1) := by decide +kernel
theorem dX9_goesNext_98 : decode cX9_goesNext 98 = .ok (.iconst 1, 1) := by decide +kernel
theorem dX9_goesNext_99 : decode cX9_goesNext 99 = .ok (.if_icmp .eq 34, 3) := by decide +kernel
theorem dX9_goesNext_102 : decode cX9_goesNext 102 = .ok (.aload_n 0, 1) := by decide +kernel
theorem dX9_goesNext_103 : decode cX9_goesNext 103 = .ok (.getfield 91, 3) := by decide +kernel
theorem dX9_goesNext_106 : decode cX9_goesNext 106 = .ok (.iload 4, 2) := by decide +kernel
theorem dX9_goesNext_108 : decode cX9_goesNext 108 = .ok (.iaload, 1) := by decide +kernel
theorem dX9_goesNext_109 : decode cX9_goesNext 109 = .ok (.iload_n 2, 1) := by decide +kernel
theorem dX9_goesNext_110 : decode cX9_goesNext 110 = .ok (.bipush 14, 2) := by decide +kernel
theorem dX9_goesNext_112 : decode cX9_goesNext 112 = .ok (.if_icmp .ne 7, 3) := by decide +kernel
theorem dX9_goesNext_115 : decode cX9_goesNext 115 = .ok (.iconst 0, 1) := by decide +kernel
theorem dX9_goesNext_116 : decode cX9_goesNext 116 = .ok (.goto 14, 3) := by decide +kernel
theorem dX9_goesNext_119 : decode cX9_goesNext 119 = .ok (.aload_n 0, 1) := by decide +kernel
theorem dX9_goesNext_120 : decode cX9_goesNext 120 = .ok (.getfield 85, 3) := by decide +kernel
theorem dX9_goesNext_123 : decode cX9_goesNext 123 = .ok (.aload_n 0, 1) := by decide +kernel
theorem dX9_goesNext_124 : decode cX9_goesNext 124 = .ok (.getfield 133, 3) := by decide +kernel
theorem dX9_goesNext_127 : decode cX9_goesNext 127 = .ok (.iload_n 2, 1) := by decide +kernel
theorem dX9_goesNext_128 : decode cX9_goesNext 128 = .ok (.iaload, 1) := by decide +kernel
theorem dX9_goesNext_129 : decode cX9_goesNext 129 = .ok (.iaload, 1) := by decide +kernel
theorem dX9_goesNext_130 : decode cX9_goesNext 130 = .ok (.if_icmp .ne 7, 3) := by decide +kernel
theorem dX9_goesNext_133 : decode cX9_goesNext 133 = .ok (.iconst 1, 1) := by decide +kernel
theorem dX9_goesNext_134 : decode cX9_goesNext 134 = .ok (.goto 4, 3) := by decide +kernel
theorem dX9_goesNext_137 : decode cX9_goesNext 137 = .ok (.iconst 0, 1) := by decide +kernel
theorem dX9_goesNext_138 : decode cX9_goesNext 138 = .ok (.ireturn, 1) := by decide +kernel
theorem dX0_init_0 : decode cX0_init 0 = .ok (.aload_n 0, 1) := by decide +kernel
theorem dX0_init_1 : decode cX0_init 1 = .ok (.invokespecial 1, 3) := by decide +kernel
theorem dX0_init_4 : decode cX0_init 4 = .ok (.aload_n 0, 1) := by decide +kernel
theorem dX0_init_5 : decode cX0_init 5 = .ok (.new 7, 3) := by decide +kernel
theorem dX0_init_8 : decode cX0_init 8 = .ok (.dup, 1) := by decide +kernel
theorem dX0_init_9 : decode cX0_init 9 = .ok (.invokespecial 9, 3) := by decide +kernel
theorem dX0_init_12 : decode cX0_init 12 = .ok (.putfield 10, 3) := by decide +kernel
theorem dX0_init_15 : decode cX0_init 15 = .ok (.aload_n 0, 1) := by decide +kernel
theorem dX0_init_16 : decode cX0_init 16 = .ok (.new 7, 3) := by decide +kernel
theorem dX0_init_19 : decode cX0_init 19 = .ok (.dup, 1) := by decide +kernel
theorem dX0_init_20 : decode cX0_init 20 = .ok (.invokespecial 9, 3) := by decide +kernel
theorem dX0_init_23 : decode cX0_init 23 = .ok (.putfield 16, 3) := by decide +kernel
theorem dX0_init_26 : decode cX0_init 26 = .ok (.return_, 1) := by decide +kernel
theorem dX0_restart_0 : decode cX0_restart 0 = .ok (.iconst 0, 1) := by decide +kernel
theorem dX0_restart_1 : decode cX0_restart 1 = .ok (.istore_n 1, 1) := by decide +kernel
theorem dX0_restart_2 : decode cX0_restart 2 = .ok (.iload_n 1, 1) := by decide +kernel
theorem dX0_restart_3 : decode cX0_restart 3 = .ok (.aload_n 0, 1) := by decide +kernel
theorem dX0_restart_4 : decode cX0_restart 4 = .ok (.getfield 10, 3) := by decide +kernel
theorem dX0_restart_7 : decode cX0_restart 7 = .ok (.invokevirtual 19, 3) := by decide +kernel
theorem dX0_restart_10 : decode cX0_restart 10 = .ok (.if_icmp .ge 28, 3) := by decide +kernel
theorem dX0_restart_13 : decode cX0_restart 13 = .ok (.aload_n 0, 1) := by decide +kernel
theorem dX0_restart_14 : decode cX0_restart 14 = .ok (.getfield 16, 3) := by decide +kernel
theorem dX0_restart_17 : decode cX0_restart 17 = .ok (.aload_n 0, 1) := by decide +kernel
theorem dX0_restart_18 : decode cX0_restart 18 = .ok (.getfield 10, 3) := by decide +kernel
theorem dX0_restart_21 : decode cX0_restart 21 = .ok (.iload_n 1, 1) := by decide +kernel
theorem dX0_restart_22 : decode cX0_restart 22 = .ok (.invokevirtual 23, 3) := by decide +kernel
theorem dX0_restart_25 : decode cX0_restart 25 = .ok (.checkcast 27, 3) := by decide +kernel
theorem dX0_restart_28 : decode cX0_restart 28 = .ok (.invokevirtual 29, 3) := by decide +kernel
theorem dX0_restart_31 : decode cX0_restart 31 = .ok (.pop, 1) := by decide +kernel
theorem dX0_restart_32 : decode cX0_restart 32 = .ok (.iinc 1 1, 3) := by decide +kernel
theorem dX0_restart_35 : decode cX0_restart 35 = .ok (.goto (-33), 3) := by decide +kernel
theorem dX0_restart_38 : decode cX0_restart 38 = .ok (.aload_n 0, 1) := by decide +kernel
theorem dX0_restart_39 : decode cX0_restart 39 = .ok (.getfield 10, 3) := by decide +kernel
theorem dX0_restart_42 : decode cX0_restart 42 = .ok (.invokevirtual 33, 3) := by decide +kernel
theorem dX0_restart_45 : decode cX0_restart 45 = .ok (.aload_n 0, 1) := by decide +kernel
theorem dX0_restart_46 : decode cX0_restart 46 = .ok (.iconst 0, 1) := by decide +kernel
theorem dX0_restart_47 : decode cX0_restart 47 = .ok (.putfield 36, 3) := by decide +kernel
theorem dX0_restart_50 : decode cX0_restart 50 = .ok (.return_, 1) := by decide +kernel
theorem dX0_size_0 : decode cX0_size 0 = .ok (.aload_n 0, 1) := by decide +kernel
theorem dX0_size_1 : decode cX0_size 1 = .ok (.getfield 10, 3) := by decide +kernel
theorem dX0_size_4 : decode cX0_size 4 = .ok (.invokevirtual 19, 3) := by decide +kernel
theorem dX0_size_7 : decode cX0_size 7 = .ok (.ireturn, 1) := by decide +kernel
theorem dX0_has_0 : decode cX0_has 0 = .ok (.iload_n 1, 1) := by decide +kernel
theorem dX0_has_1 : decode cX0_has 1 = .ok (.ifCond .lt 18, 3) := by decide +kernel
theorem dX0_has_4 : decode cX0_has 4 = .ok (.iload_n 1, 1) := by decide +kernel
theorem dX0_has_5 : decode cX0_has 5 = .ok (.aload_n 0, 1) := by decide +kernel
theorem dX0_has_6 : decode cX0_has 6 = .ok (.getfield 10, 3) := by decide +kernel
theorem dX0_has_9 : decode cX0_has 9 = .ok (.invokevirtual 19, 3) := by decide +kernel
theorem dX0_has_12 : decode cX0_has 12 = .ok (.if_icmp .ge 7, 3) := by decide +kernel
theorem dX0_has_15 : decode cX0_has 15 = .ok (.iconst 1, 1) := by decide +kernel
theorem dX0_has_16 : decode cX0_has 16 = .ok (.goto 4, 3) := by decide +kernel
theorem dX0_has_19 : decode cX0_has 19 = .ok (.iconst 0, 1) := by decide +kernel
theorem dX0_has_20 : decode cX0_has 20 = .ok (.ireturn, 1) := by decide +kernel
theorem dX0_look_0 : decode cX0_look 0 = .ok (.aload_n 0, 1) := by decide +kernel
theorem dX0_look_1 : decode cX0_look 1 = .ok (.getfield 10, 3) := by decide +kernel
theorem dX0_look_4 : decode cX0_look 4 = .ok (.iload_n 1, 1) := by decide +kernel
theorem dX0_look_5 : decode cX0_look 5 = .ok (.invokevirtual 23, 3) := by decide +kernel
theorem dX0_look_8 : decode cX0_look 8 = .ok (.checkcast 27, 3) := by decide +kernel
theorem dX0_look_11 : decode cX0_look 11 = .ok (.areturn, 1) := by decide +kernel
theorem dX0_take_0 : decode cX0_take 0 = .ok (.aload_n 0, 1) := by decide +kernel
theorem dX0_take_1 : decode cX0_take 1 = .ok (.getfield 10, 3) := by decide +kernel
theorem dX0_take_4 : decode cX0_take 4 = .ok (.iload_n 1, 1) := by decide +kernel
theorem dX0_take_5 : decode cX0_take 5 = .ok (.invokevirtual 40, 3) := by decide +kernel
theorem dX0_take_8 : decode cX0_take 8 = .ok (.checkcast 27, 3) := by decide +kernel
theorem dX0_take_11 : decode cX0_take 11 = .ok (.areturn, 1) := by decide +kernel
theorem dX0_reuse_0 : decode cX0_reuse 0 = .ok (.aload_n 0, 1) := by decide +kernel
theorem dX0_reuse_1 : decode cX0_reuse 1 = .ok (.getfield 16, 3) := by decide +kernel
theorem dX0_reuse_4 : decode cX0_reuse 4 = .ok (.aload_n 1, 1) := by decide +kernel
theorem dX0_reuse_5 : decode cX0_reuse 5 = .ok (.invokevirtual 29, 3) := by decide +kernel
theorem dX0_reuse_8 : decode cX0_reuse 8 = .ok (.pop, 1) := by decide +kernel
theorem dX0_reuse_9 : decode cX0_reuse 9 = .ok (.return_, 1) := by decide +kernel
theorem dX0_post_0 : decode cX0_post 0 = .ok (.aload_n 0, 1) := by decide +kernel
theorem dX0_post_1 : decode cX0_post 1 = .ok (.getfield 16, 3) := by decide +kernel
theorem dX0_post_4 : decode cX0_post 4 = .ok (.invokevirtual 43, 3) := by decide +kernel
theorem dX0_post_7 : decode cX0_post 7 = .ok (.ifCond .eq 20, 3) := by decide +kernel
theorem dX0_post_10 : decode cX0_post 10 = .ok (.new 27, 3) := by decide +kernel
theorem dX0_post_13 : decode cX0_post 13 = .ok (.dup, 1) := by decide +kernel
theorem dX0_post_14 : decode cX0_post 14 = .ok (.new 47, 3) := by decide +kernel
theorem dX0_post_17 : decode cX0_post 17 = .ok (.dup, 1) := by decide +kernel
theorem dX0_post_18 : decode cX0_post 18 = .ok (.invokespecial 49, 3) := by decide +kernel
theorem dX0_post_21 : decode cX0_post 21 = .ok (.invokespecial 50, 3) := by decide +kernel
theorem dX0_post_24 : decode cX0_post 24 = .ok (.goto 22, 3) := by decide +kernel
theorem dX0_post_27 : decode cX0_post 27 = .ok (.aload_n 0, 1) := by decide +kernel
theorem dX0_post_28 : decode cX0_post 28 = .ok (.getfield 16, 3) := by decide +kernel
theorem dX0_post_31 : decode cX0_post 31 = .ok (.aload_n 0, 1) := by decide +kernel
theorem dX0_post_32 : decode cX0_post 32 = .ok (.getfield 16, 3) := by decide +kernel
theorem dX0_post_35 : decode cX0_post 35 = .ok (.invokevirtual 19, 3) := by decide +kernel
theorem dX0_post_38 : decode cX0_post 38 = .ok (.iconst 1, 1) := by decide +kernel
theorem dX0_post_39 : decode cX0_post 39 = .ok (.isub, 1) := by decide +kernel
theorem dX0_post_40 : decode cX0_post 40 = .ok (.invokevirtual 40, 3) := by decide +kernel
theorem dX0_post_43 : decode cX0_post 43 = .ok (.checkcast 27, 3) := by decide +kernel
theorem dX0_post_46 : decode cX0_post 46 = .ok (.astore 5, 2) := by decide +kernel
theorem dX0_post_48 : decode cX0_post 48 = .ok (.aload 5, 2) := by decide +kernel
theorem dX0_post_50 : decode cX0_post 50 = .ok (.invokevirtual 53, 3) := by decide +kernel
theorem dX0_post_53 : decode cX0_post 53 = .ok (.aload 5, 2) := by decide +kernel
theorem dX0_post_55 : decode cX0_post 55 = .ok (.iload_n 1, 1) := by decide +kernel
theorem dX0_post_56 : decode cX0_post 56 = .ok (.putfield 54, 3) := by decide +kernel
theorem dX0_post_59 : decode cX0_post 59 = .ok (.aload 5, 2) := by decide +kernel
theorem dX0_post_61 : decode cX0_post 61 = .ok (.iload_n 2, 1) := by decide +kernel
theorem dX0_post_62 : decode cX0_post 62 = .ok (.putfield 57, 3) := by decide +kernel
theorem dX0_post_65 : decode cX0_post 65 = .ok (.aload 5, 2) := by decide +kernel
theorem dX0_post_67 : decode cX0_post 67 = .ok (.iload_n 3, 1) := by decide +kernel
theorem dX0_post_68 : decode cX0_post 68 = .ok (.putfield 60, 3) := by decide +kernel
theorem dX0_post_71 : decode cX0_post 71 = .ok (.aload 5, 2) := by decide +kernel
theorem dX0_post_73 : decode cX0_post 73 = .ok (.getfield 63, 3) := by decide +kernel
theorem dX0_post_76 : decode cX0_post 76 = .ok (.aload 4, 2) := by decide +kernel
theorem dX0_post_78 : decode cX0_post 78 = .ok (.invokevirtual 67, 3) := by decide +kernel
theorem dX0_post_81 : decode cX0_post 81 = .ok (.aload_n 0, 1) := by decide +kernel
theorem dX0_post_82 : decode cX0_post 82 = .ok (.getfield 10, 3) := by decide +kernel
theorem dX0_post_85 : decode cX0_post 85 = .ok (.aload 5, 2) := by decide +kernel
theorem dX0_post_87 : decode cX0_post 87 = .ok (.invokevirtual 29, 3) := by decide +kernel
theorem dX0_post_90 : decode cX0_post 90 = .ok (.pop, 1) := by decide +kernel
theorem dX0_post_91 : decode cX0_post 91 = .ok (.aload_n 0, 1) := by decide +kernel
theorem dX0_post_92 : decode cX0_post 92 = .ok (.dup, 1) := by decide +kernel
theorem dX0_post_93 : decode cX0_post 93 = .ok (.getfield 36, 3) := by decide +kernel
theorem dX0_post_96 : decode cX0_post 96 = .ok (.iconst 1, 1) := by decide +kernel
theorem dX0_post_97 : decode cX0_post 97 = .ok (.iadd, 1) := by decide +kernel
theorem dX0_post_98 : decode cX0_post 98 = .ok (.putfield 36, 3) := by decide +kernel
theorem dX0_post_101 : decode cX0_post 101 = .ok (.aload 5, 2) := by decide +kernel
theorem dX0_post_103 : decode cX0_post 103 = .ok (.areturn, 1) := by decide +kernel
