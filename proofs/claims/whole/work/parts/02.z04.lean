theorem dX9_serverGets_411 : decode cX9_serverGets 411 = .ok (.getfield 24, 3) := by decide +kernel
theorem dX9_serverGets_414 : decode cX9_serverGets 414 = .ok (.iconst 3, 1) := by decide +kernel
theorem dX9_serverGets_415 : decode cX9_serverGets 415 = .ok (.iload_n 1, 1) := by decide +kernel
theorem dX9_serverGets_416 : decode cX9_serverGets 416 = .ok (.imul, 1) := by decide +kernel
theorem dX9_serverGets_417 : decode cX9_serverGets 417 = .ok (.iconst 1, 1) := by decide +kernel
theorem dX9_serverGets_418 : decode cX9_serverGets 418 = .ok (.iadd, 1) := by decide +kernel
theorem dX9_serverGets_419 : decode cX9_serverGets 419 = .ok (.iaload, 1) := by decide +kernel
theorem dX9_serverGets_420 : decode cX9_serverGets 420 = .ok (.iastore, 1) := by decide +kernel
theorem dX9_serverGets_421 : decode cX9_serverGets 421 = .ok (.aload_n 0, 1) := by decide +kernel
theorem dX9_serverGets_422 : decode cX9_serverGets 422 = .ok (.getfield 63, 3) := by decide +kernel
theorem dX9_serverGets_425 : decode cX9_serverGets 425 = .ok (.iload_n 2, 1) := by decide +kernel
theorem dX9_serverGets_426 : decode cX9_serverGets 426 = .ok (.aload_n 0, 1) := by decide +kernel
theorem dX9_serverGets_427 : decode cX9_serverGets 427 = .ok (.getfield 21, 3) := by decide +kernel
theorem dX9_serverGets_430 : decode cX9_serverGets 430 = .ok (.iconst 3, 1) := by decide +kernel
theorem dX9_serverGets_431 : decode cX9_serverGets 431 = .ok (.iload_n 1, 1) := by decide +kernel
theorem dX9_serverGets_432 : decode cX9_serverGets 432 = .ok (.imul, 1) := by decide +kernel
theorem dX9_serverGets_433 : decode cX9_serverGets 433 = .ok (.iconst 2, 1) := by decide +kernel
theorem dX9_serverGets_434 : decode cX9_serverGets 434 = .ok (.iadd, 1) := by decide +kernel
theorem dX9_serverGets_435 : decode cX9_serverGets 435 = .ok (.iaload, 1) := by decide +kernel
theorem dX9_serverGets_436 : decode cX9_serverGets 436 = .ok (.iastore, 1) := by decide +kernel
theorem dX9_serverGets_437 : decode cX9_serverGets 437 = .ok (.aload_n 0, 1) := by decide +kernel
theorem dX9_serverGets_438 : decode cX9_serverGets 438 = .ok (.getfield 66, 3) := by decide +kernel
theorem dX9_serverGets_441 : decode cX9_serverGets 441 = .ok (.iload_n 2, 1) := by decide +kernel
theorem dX9_serverGets_442 : decode cX9_serverGets 442 = .ok (.aload_n 0, 1) := by decide +kernel
theorem dX9_serverGets_443 : decode cX9_serverGets 443 = .ok (.getfield 24, 3) := by decide +kernel
theorem dX9_serverGets_446 : decode cX9_serverGets 446 = .ok (.iconst 3, 1) := by decide +kernel
theorem dX9_serverGets_447 : decode cX9_serverGets 447 = .ok (.iload_n 1, 1) := by decide +kernel
theorem dX9_serverGets_448 : decode cX9_serverGets 448 = .ok (.imul, 1) := by decide +kernel
theorem dX9_serverGets_449 : decode cX9_serverGets 449 = .ok (.iconst 2, 1) := by decide +kernel
theorem dX9_serverGets_450 : decode cX9_serverGets 450 = .ok (.iadd, 1) := by decide +kernel
theorem dX9_serverGets_451 : decode cX9_serverGets 451 = .ok (.iaload, 1) := by decide +kernel
theorem dX9_serverGets_452 : decode cX9_serverGets 452 = .ok (.iastore, 1) := by decide +kernel
theorem dX9_serverGets_453 : decode cX9_serverGets 453 = .ok (.return_, 1) := by decide +kernel
theorem dX9_best_0 : decode cX9_best 0 = .ok (.iload_n 3, 1) := by decide +kernel
theorem dX9_best_1 : decode cX9_best 1 = .ok (.aload_n 0, 1) := by decide +kernel
theorem dX9_best_2 : decode cX9_best 2 = .ok (.getfield 127, 3) := by decide +kernel
theorem dX9_best_5 : decode cX9_best 5 = .ok (.iconst 3, 1) := by decide +kernel
theorem dX9_best_6 : decode cX9_best 6 = .ok (.iload_n 1, 1) := by decide +kernel
theorem dX9_best_7 : decode cX9_best 7 = .ok (.imul, 1) := by decide +kernel
theorem dX9_best_8 : decode cX9_best 8 = .ok (.iload_n 2, 1) := by decide +kernel
theorem dX9_best_9 : decode cX9_best 9 = .ok (.iadd, 1) := by decide +kernel
theorem dX9_best_10 : decode cX9_best 10 = .ok (.iaload, 1) := by decide +kernel
theorem dX9_best_11 : decode cX9_best 11 = .ok (.if_icmp .gt 4, 3) := by decide +kernel
theorem dX9_best_14 : decode cX9_best 14 = .ok (.return_, 1) := by decide +kernel
theorem dX9_best_15 : decode cX9_best 15 = .ok (.aload_n 0, 1) := by decide +kernel
theorem dX9_best_16 : decode cX9_best 16 = .ok (.getfield 127, 3) := by decide +kernel
theorem dX9_best_19 : decode cX9_best 19 = .ok (.iconst 3, 1) := by decide +kernel
theorem dX9_best_20 : decode cX9_best 20 = .ok (.iload_n 1, 1) := by decide +kernel
theorem dX9_best_21 : decode cX9_best 21 = .ok (.imul, 1) := by decide +kernel
theorem dX9_best_22 : decode cX9_best 22 = .ok (.iload_n 2, 1) := by decide +kernel
theorem dX9_best_23 : decode cX9_best 23 = .ok (.iadd, 1) := by decide +kernel
theorem dX9_best_24 : decode cX9_best 24 = .ok (.iload_n 3, 1) := by decide +kernel
theorem dX9_best_25 : decode cX9_best 25 = .ok (.iastore, 1) := by decide +kernel
theorem dX9_best_26 : decode cX9_best 26 = .ok (.aload_n 0, 1) := by decide +kernel
theorem dX9_best_27 : decode cX9_best 27 = .ok (.getfield 130, 3) := by decide +kernel
theorem dX9_best_30 : decode cX9_best 30 = .ok (.iconst 3, 1) := by decide +kernel
theorem dX9_best_31 : decode cX9_best 31 = .ok (.iload_n 1, 1) := by decide +kernel
theorem dX9_best_32 : decode cX9_best 32 = .ok (.imul, 1) := by decide +kernel
theorem dX9_best_33 : decode cX9_best 33 = .ok (.iload_n 2, 1) := by decide +kernel
theorem dX9_best_34 : decode cX9_best 34 = .ok (.iadd, 1) := by decide +kernel
theorem dX9_best_35 : decode cX9_best 35 = .ok (.iload 4, 2) := by decide +kernel
theorem dX9_best_37 : decode cX9_best 37 = .ok (.iastore, 1) := by decide +kernel
theorem dX9_best_38 : decode cX9_best 38 = .ok (.return_, 1) := by decide +kernel
theorem dX9_clientGets_0 : decode cX9_clientGets 0 = .ok (.aload_n 0, 1) := by decide +kernel
theorem dX9_clientGets_1 : decode cX9_clientGets 1 = .ok (.getfield 223, 3) := by decide +kernel
theorem dX9_clientGets_4 : decode cX9_clientGets 4 = .ok (.istore_n 1, 1) := by decide +kernel
theorem dX9_clientGets_5 : decode cX9_clientGets 5 = .ok (.aload_n 0, 1) := by decide +kernel
theorem dX9_clientGets_6 : decode cX9_clientGets 6 = .ok (.getfield 103, 3) := by decide +kernel
theorem dX9_clientGets_9 : decode cX9_clientGets 9 = .ok (.iload_n 1, 1) := by decide +kernel
theorem dX9_clientGets_10 : decode cX9_clientGets 10 = .ok (.iaload, 1) := by decide +kernel
theorem dX9_clientGets_11 : decode cX9_clientGets 11 = .ok (.istore_n 2, 1) := by decide +kernel
theorem dX9_clientGets_12 : decode cX9_clientGets 12 = .ok (.iload_n 2, 1) := by decide +kernel
theorem dX9_clientGets_13 : decode cX9_clientGets 13 = .ok (.iconst (-1), 1) := by decide +kernel
theorem dX9_clientGets_14 : decode cX9_clientGets 14 = .ok (.if_icmp .ne 4, 3) := by decide +kernel
theorem dX9_clientGets_17 : decode cX9_clientGets 17 = .ok (.return_, 1) := by decide +kernel
theorem dX9_clientGets_18 : decode cX9_clientGets 18 = .ok (.aload_n 0, 1) := by decide +kernel
theorem dX9_clientGets_19 : decode cX9_clientGets 19 = .ok (.getfield 226, 3) := by decide +kernel
theorem dX9_clientGets_22 : decode cX9_clientGets 22 = .ok (.aload_n 0, 1) := by decide +kernel
theorem dX9_clientGets_23 : decode cX9_clientGets 23 = .ok (.getfield 106, 3) := by decide +kernel
theorem dX9_clientGets_26 : decode cX9_clientGets 26 = .ok (.iload_n 1, 1) := by decide +kernel
theorem dX9_clientGets_27 : decode cX9_clientGets 27 = .ok (.iaload, 1) := by decide +kernel
theorem dX9_clientGets_28 : decode cX9_clientGets 28 = .ok (.if_icmp .ne 7, 3) := by decide +kernel
theorem dX9_clientGets_31 : decode cX9_clientGets 31 = .ok (.iconst 1, 1) := by decide +kernel
theorem dX9_clientGets_32 : decode cX9_clientGets 32 = .ok (.goto 4, 3) := by decide +kernel
theorem dX9_clientGets_35 : decode cX9_clientGets 35 = .ok (.iconst 0, 1) := by decide +kernel
theorem dX9_clientGets_36 : decode cX9_clientGets 36 = .ok (.istore_n 3, 1) := by decide +kernel
theorem dX9_clientGets_37 : decode cX9_clientGets 37 = .ok (.iload_n 3, 1) := by decide +kernel
theorem dX9_clientGets_38 : decode cX9_clientGets 38 = .ok (.ifCond .eq 15, 3) := by decide +kernel
theorem dX9_clientGets_41 : decode cX9_clientGets 41 = .ok (.aload_n 0, 1) := by decide +kernel
theorem dX9_clientGets_42 : decode cX9_clientGets 42 = .ok (.getfield 250, 3) := by decide +kernel
theorem dX9_clientGets_45 : decode cX9_clientGets 45 = .ok (.ifCond .ne 8, 3) := by decide +kernel
theorem dX9_clientGets_48 : decode cX9_clientGets 48 = .ok (.aload_n 0, 1) := by decide +kernel
theorem dX9_clientGets_49 : decode cX9_clientGets 49 = .ok (.iload_n 1, 1) := by decide +kernel
theorem dX9_clientGets_50 : decode cX9_clientGets 50 = .ok (.invokevirtual 258, 3) := by decide +kernel
theorem dX9_clientGets_53 : decode cX9_clientGets 53 = .ok (.aload_n 0, 1) := by decide +kernel
theorem dX9_clientGets_54 : decode cX9_clientGets 54 = .ok (.getfield 76, 3) := by decide +kernel
theorem dX9_clientGets_57 : decode cX9_clientGets 57 = .ok (.iload_n 2, 1) := by decide +kernel
theorem dX9_clientGets_58 : decode cX9_clientGets 58 = .ok (.iaload, 1) := by decide +kernel
theorem dX9_clientGets_59 : decode cX9_clientGets 59 = .ok (.iconst 2, 1) := by decide +kernel
theorem dX9_clientGets_60 : decode cX9_clientGets 60 = .ok (.if_icmp .ne 136, 3) := by decide +kernel
theorem dX9_clientGets_63 : decode cX9_clientGets 63 = .ok (.aload_n 0, 1) := by decide +kernel
theorem dX9_clientGets_64 : decode cX9_clientGets 64 = .ok (.getfield 121, 3) := by decide +kernel
theorem dX9_clientGets_67 : decode cX9_clientGets 67 = .ok (.iload_n 1, 1) := by decide +kernel
theorem dX9_clientGets_68 : decode cX9_clientGets 68 = .ok (.iaload, 1) := by decide +kernel
theorem dX9_clientGets_69 : decode cX9_clientGets 69 = .ok (.istore 4, 2) := by decide +kernel
theorem dX9_clientGets_71 : decode cX9_clientGets 71 = .ok (.aload_n 0, 1) := by decide +kernel
theorem dX9_clientGets_72 : decode cX9_clientGets 72 = .ok (.iload_n 1, 1) := by decide +kernel
theorem dX9_clientGets_73 : decode cX9_clientGets 73 = .ok (.iload 4, 2) := by decide +kernel
theorem dX9_clientGets_75 : decode cX9_clientGets 75 = .ok (.invokevirtual 169, 3) := by decide +kernel
theorem dX9_clientGets_78 : decode cX9_clientGets 78 = .ok (.iconst (-1), 1) := by decide +kernel
theorem dX9_clientGets_79 : decode cX9_clientGets 79 = .ok (.if_icmp .eq 15, 3) := by decide +kernel
theorem dX9_clientGets_82 : decode cX9_clientGets 82 = .ok (.aload_n 0, 1) := by decide +kernel
theorem dX9_clientGets_83 : decode cX9_clientGets 83 = .ok (.iload_n 1, 1) := by decide +kernel
theorem dX9_clientGets_84 : decode cX9_clientGets 84 = .ok (.iload 4, 2) := by decide +kernel
theorem dX9_clientGets_86 : decode cX9_clientGets 86 = .ok (.iconst 1, 1) := by decide +kernel
theorem dX9_clientGets_87 : decode cX9_clientGets 87 = .ok (.iadd, 1) := by decide +kernel
theorem dX9_clientGets_88 : decode cX9_clientGets 88 = .ok (.invokevirtual 169, 3) := by decide +kernel
theorem dX9_clientGets_91 : decode cX9_clientGets 91 = .ok (.ifCond .eq 32, 3) := by decide +kernel
theorem dX9_clientGets_94 : decode cX9_clientGets 94 = .ok (.aload_n 0, 1) := by decide +kernel
theorem dX9_clientGets_95 : decode cX9_clientGets 95 = .ok (.iload_n 1, 1) := by decide +kernel
theorem dX9_clientGets_96 : decode cX9_clientGets 96 = .ok (.aload_n 0, 1) := by decide +kernel
theorem dX9_clientGets_97 : decode cX9_clientGets 97 = .ok (.iload_n 1, 1) := by decide +kernel
theorem dX9_clientGets_98 : decode cX9_clientGets 98 = .ok (.iload 4, 2) := by decide +kernel
theorem dX9_clientGets_100 : decode cX9_clientGets 100 = .ok (.iconst 1, 1) := by decide +kernel
theorem dX9_clientGets_101 : decode cX9_clientGets 101 = .ok (.iadd, 1) := by decide +kernel
theorem dX9_clientGets_102 : decode cX9_clientGets 102 = .ok (.invokevirtual 169, 3) := by decide +kernel
theorem dX9_clientGets_105 : decode cX9_clientGets 105 = .ok (.aload_n 0, 1) := by decide +kernel
theorem dX9_clientGets_106 : decode cX9_clientGets 106 = .ok (.getfield 82, 3) := by decide +kernel
theorem dX9_clientGets_109 : decode cX9_clientGets 109 = .ok (.iload_n 2, 1) := by decide +kernel
theorem dX9_clientGets_110 : decode cX9_clientGets 110 = .ok (.iaload, 1) := by decide +kernel
theorem dX9_clientGets_111 : decode cX9_clientGets 111 = .ok (.if_icmp .ne 7, 3) := by decide +kernel
theorem dX9_clientGets_114 : decode cX9_clientGets 114 = .ok (.iconst 1, 1) := by decide +kernel
theorem dX9_clientGets_115 : decode cX9_clientGets 115 = .ok (.goto 4, 3) := by decide +kernel
theorem dX9_clientGets_118 : decode cX9_clientGets 118 = .ok (.iconst 0, 1) := by decide +kernel
theorem dX9_clientGets_119 : decode cX9_clientGets 119 = .ok (.invokevirtual 261, 3) := by decide +kernel
theorem dX9_clientGets_122 : decode cX9_clientGets 122 = .ok (.return_, 1) := by decide +kernel
theorem dX9_clientGets_123 : decode cX9_clientGets 123 = .ok (.iload_n 3, 1) := by decide +kernel
theorem dX9_clientGets_124 : decode cX9_clientGets 124 = .ok (.ifCond .eq 72, 3) := by decide +kernel
theorem dX9_clientGets_127 : decode cX9_clientGets 127 = .ok (.aload_n 0, 1) := by decide +kernel
theorem dX9_clientGets_128 : decode cX9_clientGets 128 = .ok (.getfield 250, 3) := by decide +kernel
theorem dX9_clientGets_131 : decode cX9_clientGets 131 = .ok (.ifCond .eq 65, 3) := by decide +kernel
theorem dX9_clientGets_134 : decode cX9_clientGets 134 = .ok (.aload_n 0, 1) := by decide +kernel
theorem dX9_clientGets_135 : decode cX9_clientGets 135 = .ok (.getfield 100, 3) := by decide +kernel
theorem dX9_clientGets_138 : decode cX9_clientGets 138 = .ok (.iload_n 2, 1) := by decide +kernel
theorem dX9_clientGets_139 : decode cX9_clientGets 139 = .ok (.aload_n 0, 1) := by decide +kernel
theorem dX9_clientGets_140 : decode cX9_clientGets 140 = .ok (.getfield 100, 3) := by decide +kernel
theorem dX9_clientGets_143 : decode cX9_clientGets 143 = .ok (.iload_n 2, 1) := by decide +kernel
theorem dX9_clientGets_144 : decode cX9_clientGets 144 = .ok (.iaload, 1) := by decide +kernel
theorem dX9_clientGets_145 : decode cX9_clientGets 145 = .ok (.iconst 1, 1) := by decide +kernel
theorem dX9_clientGets_146 : decode cX9_clientGets 146 = .ok (.iadd, 1) := by decide +kernel
theorem dX9_clientGets_147 : decode cX9_clientGets 147 = .ok (.iastore, 1) := by decide +kernel
theorem dX9_clientGets_148 : decode cX9_clientGets 148 = .ok (.aload_n 0, 1) := by decide +kernel
theorem dX9_clientGets_149 : decode cX9_clientGets 149 = .ok (.getfield 100, 3) := by decide +kernel
theorem dX9_clientGets_152 : decode cX9_clientGets 152 = .ok (.iload_n 2, 1) := by decide +kernel
theorem dX9_clientGets_153 : decode cX9_clientGets 153 = .ok (.iaload, 1) := by decide +kernel
theorem dX9_clientGets_154 : decode cX9_clientGets 154 = .ok (.bipush 9, 2) := by decide +kernel
theorem dX9_clientGets_156 : decode cX9_clientGets 156 = .ok (.if_icmp .ne 10, 3) := by decide +kernel
theorem dX9_clientGets_159 : decode cX9_clientGets 159 = .ok (.aload_n 0, 1) := by decide +kernel
theorem dX9_clientGets_160 : decode cX9_clientGets 160 = .ok (.iload_n 1, 1) := by decide +kernel
theorem dX9_clientGets_161 : decode cX9_clientGets 161 = .ok (.iconst 0, 1) := by decide +kernel
theorem dX9_clientGets_162 : decode cX9_clientGets 162 = .ok (.invokevirtual 261, 3) := by decide +kernel
theorem dX9_clientGets_165 : decode cX9_clientGets 165 = .ok (.return_, 1) := by decide +kernel
theorem dX9_clientGets_166 : decode cX9_clientGets 166 = .ok (.aload_n 0, 1) := by decide +kernel
theorem dX9_clientGets_167 : decode cX9_clientGets 167 = .ok (.getfield 118, 3) := by decide +kernel
theorem dX9_clientGets_170 : decode cX9_clientGets 170 = .ok (.iload_n 1, 1) := by decide +kernel
theorem dX9_clientGets_171 : decode cX9_clientGets 171 = .ok (.iconst 4, 1) := by decide +kernel
theorem dX9_clientGets_172 : decode cX9_clientGets 172 = .ok (.aload_n 0, 1) := by decide +kernel
theorem dX9_clientGets_173 : decode cX9_clientGets 173 = .ok (.getfield 232, 3) := by decide +kernel
theorem dX9_clientGets_176 : decode cX9_clientGets 176 = .ok (.iconst 4, 1) := by decide +kernel
theorem dX9_clientGets_177 : decode cX9_clientGets 177 = .ok (.idiv, 1) := by decide +kernel
theorem dX9_clientGets_178 : decode cX9_clientGets 178 = .ok (.iconst 1, 1) := by decide +kernel
theorem dX9_clientGets_179 : decode cX9_clientGets 179 = .ok (.iadd, 1) := by decide +kernel
theorem dX9_clientGets_180 : decode cX9_clientGets 180 = .ok (.imul, 1) := by decide +kernel
theorem dX9_clientGets_181 : decode cX9_clientGets 181 = .ok (.iload_n 1, 1) := by decide +kernel
theorem dX9_clientGets_182 : decode cX9_clientGets 182 = .ok (.iadd, 1) := by decide +kernel
theorem dX9_clientGets_183 : decode cX9_clientGets 183 = .ok (.iastore, 1) := by decide +kernel
theorem dX9_clientGets_184 : decode cX9_clientGets 184 = .ok (.aload_n 0, 1) := by decide +kernel
theorem dX9_clientGets_185 : decode cX9_clientGets 185 = .ok (.iload_n 1, 1) := by decide +kernel
theorem dX9_clientGets_186 : decode cX9_clientGets 186 = .ok (.invokevirtual 194, 3) := by decide +kernel
theorem dX9_clientGets_189 : decode cX9_clientGets 189 = .ok (.aload_n 0, 1) := by decide +kernel
theorem dX9_clientGets_190 : decode cX9_clientGets 190 = .ok (.iload_n 1, 1) := by decide +kernel
theorem dX9_clientGets_191 : decode cX9_clientGets 191 = .ok (.iconst 1, 1) := by decide +kernel
theorem dX9_clientGets_192 : decode cX9_clientGets 192 = .ok (.invokevirtual 197, 3) := by decide +kernel
theorem dX9_clientGets_195 : decode cX9_clientGets 195 = .ok (.return_, 1) := by decide +kernel
theorem dX9_clientGets_196 : decode cX9_clientGets 196 = .ok (.aload_n 0, 1) := by decide +kernel
theorem dX9_clientGets_197 : decode cX9_clientGets 197 = .ok (.getfield 76, 3) := by decide +kernel
theorem dX9_clientGets_200 : decode cX9_clientGets 200 = .ok (.iload_n 2, 1) := by decide +kernel
theorem dX9_clientGets_201 : decode cX9_clientGets 201 = .ok (.iaload, 1) := by decide +kernel
theorem dX9_clientGets_202 : decode cX9_clientGets 202 = .ok (.iconst 3, 1) := by decide +kernel
theorem dX9_clientGets_203 : decode cX9_clientGets 203 = .ok (.if_icmp .ne 30, 3) := by decide +kernel
theorem dX9_clientGets_206 : decode cX9_clientGets 206 = .ok (.aload_n 0, 1) := by decide +kernel
theorem dX9_clientGets_207 : decode cX9_clientGets 207 = .ok (.iload_n 1, 1) := by decide +kernel
theorem dX9_clientGets_208 : decode cX9_clientGets 208 = .ok (.aload_n 0, 1) := by decide +kernel
theorem dX9_clientGets_209 : decode cX9_clientGets 209 = .ok (.getfield 121, 3) := by decide +kernel
theorem dX9_clientGets_212 : decode cX9_clientGets 212 = .ok (.iload_n 1, 1) := by decide +kernel
theorem dX9_clientGets_213 : decode cX9_clientGets 213 = .ok (.iaload, 1) := by decide +kernel
theorem dX9_clientGets_214 : decode cX9_clientGets 214 = .ok (.invokevirtual 169, 3) := by decide +kernel
theorem dX9_clientGets_217 : decode cX9_clientGets 217 = .ok (.iconst (-1), 1) := by decide +kernel
theorem dX9_clientGets_218 : decode cX9_clientGets 218 = .ok (.if_icmp .ne 15, 3) := by decide +kernel
theorem dX9_clientGets_221 : decode cX9_clientGets 221 = .ok (.aload_n 0, 1) := by decide +kernel
theorem dX9_clientGets_222 : decode cX9_clientGets 222 = .ok (.iload_n 1, 1) := by decide +kernel
theorem dX9_clientGets_223 : decode cX9_clientGets 223 = .ok (.aload_n 0, 1) := by decide +kernel
theorem dX9_clientGets_224 : decode cX9_clientGets 224 = .ok (.getfield 121, 3) := by decide +kernel
theorem dX9_clientGets_227 : decode cX9_clientGets 227 = .ok (.iload_n 1, 1) := by decide +kernel
theorem dX9_clientGets_228 : decode cX9_clientGets 228 = .ok (.iaload, 1) := by decide +kernel
theorem dX9_clientGets_229 : decode cX9_clientGets 229 = .ok (.invokevirtual 261, 3) := by decide +kernel
theorem dX9_clientGets_232 : decode cX9_clientGets 232 = .ok (.return_, 1) := by decide +kernel
theorem dX9_clientGets_233 : decode cX9_clientGets 233 = .ok (.aload_n 0, 1) := by decide +kernel
theorem dX9_clientGets_234 : decode cX9_clientGets 234 = .ok (.iload_n 1, 1) := by decide +kernel
theorem dX9_clientGets_235 : decode cX9_clientGets 235 = .ok (.invokevirtual 190, 3) := by decide +kernel
theorem dX9_clientGets_238 : decode cX9_clientGets 238 = .ok (.aload_n 0, 1) := by decide +kernel
theorem dX9_clientGets_239 : decode cX9_clientGets 239 = .ok (.iload_n 1, 1) := by decide +kernel
theorem dX9_clientGets_240 : decode cX9_clientGets 240 = .ok (.invokevirtual 264, 3) := by decide +kernel
theorem dX9_clientGets_243 : decode cX9_clientGets 243 = .ok (.ifCond .eq 8, 3) := by decide +kernel
theorem dX9_clientGets_246 : decode cX9_clientGets 246 = .ok (.aload_n 0, 1) := by decide +kernel
theorem dX9_clientGets_247 : decode cX9_clientGets 247 = .ok (.iload_n 1, 1) := by decide +kernel
theorem dX9_clientGets_248 : decode cX9_clientGets 248 = .ok (.invokevirtual 267, 3) := by decide +kernel
theorem dX9_clientGets_251 : decode cX9_clientGets 251 = .ok (.return_, 1) := by decide +kernel
theorem dX9_counts_0 : decode cX9_counts 0 = .ok (.aload_n 0, 1) := by decide +kernel
theorem dX9_counts_1 : decode cX9_counts 1 = .ok (.getfield 112, 3) := by decide +kernel
theorem dX9_counts_4 : decode cX9_counts 4 = .ok (.iload_n 1, 1) := by decide +kernel
theorem dX9_counts_5 : decode cX9_counts 5 = .ok (.aload_n 0, 1) := by decide +kernel
theorem dX9_counts_6 : decode cX9_counts 6 = .ok (.getfield 112, 3) := by decide +kernel
theorem dX9_counts_9 : decode cX9_counts 9 = .ok (.iload_n 1, 1) := by decide +kernel
theorem dX9_counts_10 : decode cX9_counts 10 = .ok (.iaload, 1) := by decide +kernel
theorem dX9_counts_11 : decode cX9_counts 11 = .ok (.iconst 1, 1) := by decide +kernel
theorem dX9_counts_12 : decode cX9_counts 12 = .ok (.aload_n 0, 1) := by decide +kernel
theorem dX9_counts_13 : decode cX9_counts 13 = .ok (.getfield 220, 3) := by decide +kernel
theorem dX9_counts_16 : decode cX9_counts 16 = .ok (.ishl, 1) := by decide +kernel
theorem dX9_counts_17 : decode cX9_counts 17 = .ok (.ior, 1) := by decide +kernel
theorem dX9_counts_18 : decode cX9_counts 18 = .ok (.iastore, 1) := by decide +kernel
theorem dX9_counts_19 : decode cX9_counts 19 = .ok (.aload_n 0, 1) := by decide +kernel
theorem dX9_counts_20 : decode cX9_counts 20 = .ok (.getfield 115, 3) := by decide +kernel
theorem dX9_counts_23 : decode cX9_counts 23 = .ok (.iload_n 1, 1) := by decide +kernel
theorem dX9_counts_24 : decode cX9_counts 24 = .ok (.iaload, 1) := by decide +kernel
theorem dX9_counts_25 : decode cX9_counts 25 = .ok (.iconst 1, 1) := by decide +kernel
theorem dX9_counts_26 : decode cX9_counts 26 = .ok (.if_icmp .eq 4, 3) := by decide +kernel
theorem dX9_counts_29 : decode cX9_counts 29 = .ok (.return_, 1) := by decide +kernel
theorem dX9_counts_30 : decode cX9_counts 30 = .ok (.aload_n 0, 1) := by decide +kernel
theorem dX9_counts_31 : decode cX9_counts 31 = .ok (.iload_n 1, 1) := by decide +kernel
theorem dX9_counts_32 : decode cX9_counts 32 = .ok (.iconst 0, 1) := by decide +kernel
theorem dX9_counts_33 : decode cX9_counts 33 = .ok (.aload_n 0, 1) := by decide +kernel
theorem dX9_counts_34 : decode cX9_counts 34 = .ok (.getfield 232, 3) := by decide +kernel
theorem dX9_counts_37 : decode cX9_counts 37 = .ok (.aload_n 0, 1) := by decide +kernel
theorem dX9_counts_38 : decode cX9_counts 38 = .ok (.getfield 235, 3) := by decide +kernel
theorem dX9_counts_41 : decode cX9_counts 41 = .ok (.invokevirtual 270, 3) := by decide +kernel
theorem dX9_counts_44 : decode cX9_counts 44 = .ok (.aload_n 0, 1) := by decide +kernel
theorem dX9_counts_45 : decode cX9_counts 45 = .ok (.iload_n 1, 1) := by decide +kernel
theorem dX9_counts_46 : decode cX9_counts 46 = .ok (.iconst 1, 1) := by decide +kernel
theorem dX9_counts_47 : decode cX9_counts 47 = .ok (.aload_n 0, 1) := by decide +kernel
theorem dX9_counts_48 : decode cX9_counts 48 = .ok (.getfield 238, 3) := by decide +kernel
theorem dX9_counts_51 : decode cX9_counts 51 = .ok (.aload_n 0, 1) := by decide +kernel
theorem dX9_counts_52 : decode cX9_counts 52 = .ok (.getfield 241, 3) := by decide +kernel
theorem dX9_counts_55 : decode cX9_counts 55 = .ok (.invokevirtual 270, 3) := by decide +kernel
theorem dX9_counts_58 : decode cX9_counts 58 = .ok (.aload_n 0, 1) := by decide +kernel
theorem dX9_counts_59 : decode cX9_counts 59 = .ok (.iload_n 1, 1) := by decide +kernel
theorem dX9_counts_60 : decode cX9_counts 60 = .ok (.iconst 2, 1) := by decide +kernel
theorem dX9_counts_61 : decode cX9_counts 61 = .ok (.aload_n 0, 1) := by decide +kernel
theorem dX9_counts_62 : decode cX9_counts 62 = .ok (.getfield 244, 3) := by decide +kernel
theorem dX9_counts_65 : decode cX9_counts 65 = .ok (.aload_n 0, 1) := by decide +kernel
theorem dX9_counts_66 : decode cX9_counts 66 = .ok (.getfield 247, 3) := by decide +kernel
theorem dX9_counts_69 : decode cX9_counts 69 = .ok (.invokevirtual 270, 3) := by decide +kernel
theorem dX9_counts_72 : decode cX9_counts 72 = .ok (.return_, 1) := by decide +kernel
theorem dX9_ends_0 : decode cX9_ends 0 = .ok (.aload_n 0, 1) := by decide +kernel
theorem dX9_ends_1 : decode cX9_ends 1 = .ok (.getfield 103, 3) := by decide +kernel
theorem dX9_ends_4 : decode cX9_ends 4 = .ok (.iload_n 1, 1) := by decide +kernel
theorem dX9_ends_5 : decode cX9_ends 5 = .ok (.iaload, 1) := by decide +kernel
theorem dX9_ends_6 : decode cX9_ends 6 = .ok (.istore_n 2, 1) := by decide +kernel
theorem dX9_ends_7 : decode cX9_ends 7 = .ok (.aload_n 0, 1) := by decide +kernel
theorem dX9_ends_8 : decode cX9_ends 8 = .ok (.iload_n 2, 1) := by decide +kernel
theorem dX9_ends_9 : decode cX9_ends 9 = .ok (.invokevirtual 165, 3) := by decide +kernel
theorem dX9_ends_12 : decode cX9_ends 12 = .ok (.ifCond .eq 82, 3) := by decide +kernel
theorem dX9_ends_15 : decode cX9_ends 15 = .ok (.aload_n 0, 1) := by decide +kernel
theorem dX9_ends_16 : decode cX9_ends 16 = .ok (.getfield 115, 3) := by decide +kernel
theorem dX9_ends_19 : decode cX9_ends 19 = .ok (.iload_n 1, 1) := by decide +kernel
theorem dX9_ends_20 : decode cX9_ends 20 = .ok (.iaload, 1) := by decide +kernel
theorem dX9_ends_21 : decode cX9_ends 21 = .ok (.iconst 2, 1) := by decide +kernel
theorem dX9_ends_22 : decode cX9_ends 22 = .ok (.if_icmp .ne 17, 3) := by decide +kernel
theorem dX9_ends_25 : decode cX9_ends 25 = .ok (.aload_n 0, 1) := by decide +kernel
theorem dX9_ends_26 : decode cX9_ends 26 = .ok (.iload_n 1, 1) := by decide +kernel
theorem dX9_ends_27 : decode cX9_ends 27 = .ok (.aload_n 0, 1) := by decide +kernel
theorem dX9_ends_28 : decode cX9_ends 28 = .ok (.getfield 130, 3) := by decide +kernel
theorem dX9_ends_31 : decode cX9_ends 31 = .ok (.iconst 3, 1) := by decide +kernel
theorem dX9_ends_32 : decode cX9_ends 32 = .ok (.iload_n 1, 1) := by decide +kernel
theorem dX9_ends_33 : decode cX9_ends 33 = .ok (.imul, 1) := by decide +kernel
theorem dX9_ends_34 : decode cX9_ends 34 = .ok (.iaload, 1) := by decide +kernel
theorem dX9_ends_35 : decode cX9_ends 35 = .ok (.invokevirtual 261, 3) := by decide +kernel
theorem dX9_ends_38 : decode cX9_ends 38 = .ok (.return_, 1) := by decide +kernel
theorem dX9_ends_39 : decode cX9_ends 39 = .ok (.aload_n 0, 1) := by decide +kernel
theorem dX9_ends_40 : decode cX9_ends 40 = .ok (.getfield 76, 3) := by decide +kernel
theorem dX9_ends_43 : decode cX9_ends 43 = .ok (.iload_n 2, 1) := by decide +kernel
theorem dX9_ends_44 : decode cX9_ends 44 = .ok (.iaload, 1) := by decide +kernel
theorem dX9_ends_45 : decode cX9_ends 45 = .ok (.iconst 1, 1) := by decide +kernel
theorem dX9_ends_46 : decode cX9_ends 46 = .ok (.if_icmp .ne 41, 3) := by decide +kernel
theorem dX9_ends_49 : decode cX9_ends 49 = .ok (.aload_n 0, 1) := by decide +kernel
theorem dX9_ends_50 : decode cX9_ends 50 = .ok (.getfield 127, 3) := by decide +kernel
theorem dX9_ends_53 : decode cX9_ends 53 = .ok (.iconst 3, 1) := by decide +kernel
theorem dX9_ends_54 : decode cX9_ends 54 = .ok (.iload_n 1, 1) := by decide +kernel
theorem dX9_ends_55 : decode cX9_ends 55 = .ok (.imul, 1) := by decide +kernel
theorem dX9_ends_56 : decode cX9_ends 56 = .ok (.iconst 4, 1) := by decide +kernel
theorem dX9_ends_57 : decode cX9_ends 57 = .ok (.aload_n 0, 1) := by decide +kernel
theorem dX9_ends_58 : decode cX9_ends 58 = .ok (.getfield 127, 3) := by decide +kernel
theorem dX9_ends_61 : decode cX9_ends 61 = .ok (.iconst 3, 1) := by decide +kernel
theorem dX9_ends_62 : decode cX9_ends 62 = .ok (.iload_n 1, 1) := by decide +kernel
theorem dX9_ends_63 : decode cX9_ends 63 = .ok (.imul, 1) := by decide +kernel
theorem dX9_ends_64 : decode cX9_ends 64 = .ok (.iaload, 1) := by decide +kernel
theorem dX9_ends_65 : decode cX9_ends 65 = .ok (.iconst 4, 1) := by decide +kernel
theorem dX9_ends_66 : decode cX9_ends 66 = .ok (.idiv, 1) := by decide +kernel
theorem dX9_ends_67 : decode cX9_ends 67 = .ok (.iconst 1, 1) := by decide +kernel
theorem dX9_ends_68 : decode cX9_ends 68 = .ok (.iadd, 1) := by decide +kernel
theorem dX9_ends_69 : decode cX9_ends 69 = .ok (.imul, 1) := by decide +kernel
theorem dX9_ends_70 : decode cX9_ends 70 = .ok (.iload_n 1, 1) := by decide +kernel
theorem dX9_ends_71 : decode cX9_ends 71 = .ok (.iadd, 1) := by decide +kernel
theorem dX9_ends_72 : decode cX9_ends 72 = .ok (.iastore, 1) := by decide +kernel
theorem dX9_ends_73 : decode cX9_ends 73 = .ok (.aload_n 0, 1) := by decide +kernel
theorem dX9_ends_74 : decode cX9_ends 74 = .ok (.getfield 130, 3) := by decide +kernel
theorem dX9_ends_77 : decode cX9_ends 77 = .ok (.iconst 3, 1) := by decide +kernel
theorem dX9_ends_78 : decode cX9_ends 78 = .ok (.iload_n 1, 1) := by decide +kernel
theorem dX9_ends_79 : decode cX9_ends 79 = .ok (.imul, 1) := by decide +kernel
theorem dX9_ends_80 : decode cX9_ends 80 = .ok (.aload_n 0, 1) := by decide +kernel
theorem dX9_ends_81 : decode cX9_ends 81 = .ok (.getfield 85, 3) := by decide +kernel
theorem dX9_ends_84 : decode cX9_ends 84 = .ok (.iload_n 2, 1) := by decide +kernel
theorem dX9_ends_85 : decode cX9_ends 85 = .ok (.iaload, 1) := by decide +kernel
theorem dX9_ends_86 : decode cX9_ends 86 = .ok (.iastore, 1) := by decide +kernel
theorem dX9_ends_87 : decode cX9_ends 87 = .ok (.aload_n 0, 1) := by decide +kernel
theorem dX9_ends_88 : decode cX9_ends 88 = .ok (.iload_n 1, 1) := by decide +kernel
theorem dX9_ends_89 : decode cX9_ends 89 = .ok (.iconst 2, 1) := by decide +kernel
theorem dX9_ends_90 : decode cX9_ends 90 = .ok (.invokevirtual 197, 3) := by decide +kernel
theorem dX9_ends_93 : decode cX9_ends 93 = .ok (.return_, 1) := by decide +kernel
theorem dX9_ends_94 : decode cX9_ends 94 = .ok (.aload_n 0, 1) := by decide +kernel
theorem dX9_ends_95 : decode cX9_ends 95 = .ok (.getfield 115, 3) := by decide +kernel
theorem dX9_ends_98 : decode cX9_ends 98 = .ok (.iload_n 1, 1) := by decide +kernel
theorem dX9_ends_99 : decode cX9_ends 99 = .ok (.iaload, 1) := by decide +kernel
theorem dX9_ends_100 : decode cX9_ends 100 = .ok (.iconst 1, 1) := by decide +kernel
theorem dX9_ends_101 : decode cX9_ends 101 = .ok (.if_icmp .ne 10, 3) := by decide +kernel
theorem dX9_ends_104 : decode cX9_ends 104 = .ok (.aload_n 0, 1) := by decide +kernel
theorem dX9_ends_105 : decode cX9_ends 105 = .ok (.iload_n 1, 1) := by decide +kernel
theorem dX9_ends_106 : decode cX9_ends 106 = .ok (.iconst 2, 1) := by decide +kernel
theorem dX9_ends_107 : decode cX9_ends 107 = .ok (.invokevirtual 197, 3) := by decide +kernel
theorem dX9_ends_110 : decode cX9_ends 110 = .ok (.return_, 1) := by decide +kernel
theorem dX9_ends_111 : decode cX9_ends 111 = .ok (.aload_n 0, 1) := by decide +kernel
theorem dX9_ends_112 : decode cX9_ends 112 = .ok (.getfield 121, 3) := by decide +kernel
theorem dX9_ends_115 : decode cX9_ends 115 = .ok (.iload_n 1, 1) := by decide +kernel
theorem dX9_ends_116 : decode cX9_ends 116 = .ok (.iaload, 1) := by decide +kernel
theorem dX9_ends_117 : decode cX9_ends 117 = .ok (.istore_n 3, 1) := by decide +kernel
theorem dX9_ends_118 : decode cX9_ends 118 = .ok (.aload_n 0, 1) := by decide +kernel
theorem dX9_ends_119 : decode cX9_ends 119 = .ok (.getfield 76, 3) := by decide +kernel
theorem dX9_ends_122 : decode cX9_ends 122 = .ok (.iload_n 2, 1) := by decide +kernel
theorem dX9_ends_123 : decode cX9_ends 123 = .ok (.iaload, 1) := by decide +kernel
theorem dX9_ends_124 : decode cX9_ends 124 = .ok (.iconst 2, 1) := by decide +kernel
theorem dX9_ends_125 : decode cX9_ends 125 = .ok (.if_icmp .ne 65, 3) := by decide +kernel
theorem dX9_ends_128 : decode cX9_ends 128 = .ok (.aload_n 0, 1) := by decide +kernel
theorem dX9_ends_129 : decode cX9_ends 129 = .ok (.iload_n 1, 1) := by decide +kernel
theorem dX9_ends_130 : decode cX9_ends 130 = .ok (.invokevirtual 187, 3) := by decide +kernel
theorem dX9_ends_133 : decode cX9_ends 133 = .ok (.istore 4, 2) := by decide +kernel
theorem dX9_ends_135 : decode cX9_ends 135 = .ok (.aload_n 0, 1) := by decide +kernel
theorem dX9_ends_136 : decode cX9_ends 136 = .ok (.getfield 13, 3) := by decide +kernel
theorem dX9_ends_139 : decode cX9_ends 139 = .ok (.bipush 6, 2) := by decide +kernel
theorem dX9_ends_141 : decode cX9_ends 141 = .ok (.bipush 7, 2) := by decide +kernel
theorem dX9_ends_143 : decode cX9_ends 143 = .ok (.iload_n 1, 1) := by decide +kernel
theorem dX9_ends_144 : decode cX9_ends 144 = .ok (.iadd, 1) := by decide +kernel
theorem dX9_ends_145 : decode cX9_ends 145 = .ok (.imul, 1) := by decide +kernel
theorem dX9_ends_146 : decode cX9_ends 146 = .ok (.iload_n 3, 1) := by decide +kernel
theorem dX9_ends_147 : decode cX9_ends 147 = .ok (.iadd, 1) := by decide +kernel
theorem dX9_ends_148 : decode cX9_ends 148 = .ok (.iconst 1, 1) := by decide +kernel
theorem dX9_ends_149 : decode cX9_ends 149 = .ok (.iadd, 1) := by decide +kernel
theorem dX9_ends_150 : decode cX9_ends 150 = .ok (.iload 4, 2) := by decide +kernel
theorem dX9_ends_152 : decode cX9_ends 152 = .ok (.iastore, 1) := by decide +kernel
theorem dX9_ends_153 : decode cX9_ends 153 = .ok (.aload_n 0, 1) := by decide +kernel
theorem dX9_ends_154 : decode cX9_ends 154 = .ok (.iload_n 1, 1) := by decide +kernel
theorem dX9_ends_155 : decode cX9_ends 155 = .ok (.aload_n 0, 1) := by decide +kernel
theorem dX9_ends_156 : decode cX9_ends 156 = .ok (.iload_n 1, 1) := by decide +kernel
theorem dX9_ends_157 : decode cX9_ends 157 = .ok (.iload_n 3, 1) := by decide +kernel
theorem dX9_ends_158 : decode cX9_ends 158 = .ok (.invokevirtual 169, 3) := by decide +kernel
theorem dX9_ends_161 : decode cX9_ends 161 = .ok (.iload 4, 2) := by decide +kernel
theorem dX9_ends_163 : decode cX9_ends 163 = .ok (.invokevirtual 273, 3) := by decide +kernel
theorem dX9_ends_166 : decode cX9_ends 166 = .ok (.aload_n 0, 1) := by decide +kernel
theorem dX9_ends_167 : decode cX9_ends 167 = .ok (.iload_n 1, 1) := by decide +kernel
theorem dX9_ends_168 : decode cX9_ends 168 = .ok (.iload 4, 2) := by decide +kernel
theorem dX9_ends_170 : decode cX9_ends 170 = .ok (.aload_n 0, 1) := by decide +kernel
theorem dX9_ends_171 : decode cX9_ends 171 = .ok (.getfield 82, 3) := by decide +kernel
theorem dX9_ends_174 : decode cX9_ends 174 = .ok (.iload_n 2, 1) := by decide +kernel
theorem dX9_ends_175 : decode cX9_ends 175 = .ok (.iaload, 1) := by decide +kernel
theorem dX9_ends_176 : decode cX9_ends 176 = .ok (.if_icmp .ne 7, 3) := by decide +kernel
theorem dX9_ends_179 : decode cX9_ends 179 = .ok (.iconst 1, 1) := by decide +kernel
theorem dX9_ends_180 : decode cX9_ends 180 = .ok (.goto 4, 3) := by decide +kernel
theorem dX9_ends_183 : decode cX9_ends 183 = .ok (.iconst 0, 1) := by decide +kernel
theorem dX9_ends_184 : decode cX9_ends 184 = .ok (.invokevirtual 261, 3) := by decide +kernel
theorem dX9_ends_187 : decode cX9_ends 187 = .ok (.goto 45, 3) := by decide +kernel
theorem dX9_ends_190 : decode cX9_ends 190 = .ok (.aload_n 0, 1) := by decide +kernel
theorem dX9_ends_191 : decode cX9_ends 191 = .ok (.iload_n 1, 1) := by decide +kernel
theorem dX9_ends_192 : decode cX9_ends 192 = .ok (.iload_n 3, 1) := by decide +kernel
theorem dX9_ends_193 : decode cX9_ends 193 = .ok (.invokevirtual 169, 3) := by decide +kernel
theorem dX9_ends_196 : decode cX9_ends 196 = .ok (.istore 4, 2) := by decide +kernel
theorem dX9_ends_198 : decode cX9_ends 198 = .ok (.aload_n 0, 1) := by decide +kernel
theorem dX9_ends_199 : decode cX9_ends 199 = .ok (.getfield 13, 3) := by decide +kernel
theorem dX9_ends_202 : decode cX9_ends 202 = .ok (.bipush 6, 2) := by decide +kernel
theorem dX9_ends_204 : decode cX9_ends 204 = .ok (.bipush 7, 2) := by decide +kernel
theorem dX9_ends_206 : decode cX9_ends 206 = .ok (.iload_n 1, 1) := by decide +kernel
theorem dX9_ends_207 : decode cX9_ends 207 = .ok (.iadd, 1) := by decide +kernel
theorem dX9_ends_208 : decode cX9_ends 208 = .ok (.imul, 1) := by decide +kernel
theorem dX9_ends_209 : decode cX9_ends 209 = .ok (.iload_n 3, 1) := by decide +kernel
theorem dX9_ends_210 : decode cX9_ends 210 = .ok (.iadd, 1) := by decide +kernel
theorem dX9_ends_211 : decode cX9_ends 211 = .ok (.iconst (-1), 1) := by decide +kernel
theorem dX9_ends_212 : decode cX9_ends 212 = .ok (.iastore, 1) := by decide +kernel
theorem dX9_ends_213 : decode cX9_ends 213 = .ok (.aload_n 0, 1) := by decide +kernel
theorem dX9_ends_214 : decode cX9_ends 214 = .ok (.iload_n 1, 1) := by decide +kernel
theorem dX9_ends_215 : decode cX9_ends 215 = .ok (.iload 4, 2) := by decide +kernel
theorem dX9_ends_217 : decode cX9_ends 217 = .ok (.aload_n 0, 1) := by decide +kernel
theorem dX9_ends_218 : decode cX9_ends 218 = .ok (.getfield 124, 3) := by decide +kernel
theorem dX9_ends_221 : decode cX9_ends 221 = .ok (.iload_n 1, 1) := by decide +kernel
theorem dX9_ends_222 : decode cX9_ends 222 = .ok (.iaload, 1) := by decide +kernel
theorem dX9_ends_223 : decode cX9_ends 223 = .ok (.invokevirtual 273, 3) := by decide +kernel
theorem dX9_ends_226 : decode cX9_ends 226 = .ok (.aload_n 0, 1) := by decide +kernel
theorem dX9_ends_227 : decode cX9_ends 227 = .ok (.iload_n 1, 1) := by decide +kernel
theorem dX9_ends_228 : decode cX9_ends 228 = .ok (.iload_n 3, 1) := by decide +kernel
theorem dX9_ends_229 : decode cX9_ends 229 = .ok (.invokevirtual 261, 3) := by decide +kernel
theorem dX9_ends_232 : decode cX9_ends 232 = .ok (.return_, 1) := by decide +kernel
theorem dX9_isMessage_0 : decode cX9_isMessage 0 = .ok (.iload_n 1, 1) := by decide +kernel
theorem dX9_isMessage_1 : decode cX9_isMessage 1 = .ok (.ifCond .lt 15, 3) := by decide +kernel
theorem dX9_isMessage_4 : decode cX9_isMessage 4 = .ok (.iload_n 1, 1) := by decide +kernel
theorem dX9_isMessage_5 : decode cX9_isMessage 5 = .ok (.aload_n 0, 1) := by decide +kernel
theorem dX9_isMessage_6 : decode cX9_isMessage 6 = .ok (.getfield 143, 3) := by decide +kernel
theorem dX9_isMessage_9 : decode cX9_isMessage 9 = .ok (.if_icmp .ge 7, 3) := by decide +kernel
theorem dX9_isMessage_12 : decode cX9_isMessage 12 = .ok (.iconst 1, 1) := by decide +kernel
theorem dX9_isMessage_13 : decode cX9_isMessage 13 = .ok (.goto 4, 3) := by decide +kernel
theorem dX9_isMessage_16 : decode cX9_isMessage 16 = .ok (.iconst 0, 1) := by decide +kernel
theorem dX9_isMessage_17 : decode cX9_isMessage 17 = .ok (.ireturn, 1) := by decide +kernel
theorem dX9_delivers_0 : decode cX9_delivers 0 = .ok (.aload_n 0, 1) := by decide +kernel
theorem dX9_delivers_1 : decode cX9_delivers 1 = .ok (.iload_n 1, 1) := by decide +kernel
theorem dX9_delivers_2 : decode cX9_delivers 2 = .ok (.invokevirtual 277, 3) := by decide +kernel
theorem dX9_delivers_5 : decode cX9_delivers 5 = .ok (.aload_n 0, 1) := by decide +kernel
theorem dX9_delivers_6 : decode cX9_delivers 6 = .ok (.getfield 217, 3) := by decide +kernel
theorem dX9_delivers_9 : decode cX9_delivers 9 = .ok (.bipush 10, 2) := by decide +kernel
theorem dX9_delivers_11 : decode cX9_delivers 11 = .ok (.if_icmp .lt 13, 3) := by decide +kernel
theorem dX9_delivers_14 : decode cX9_delivers 14 = .ok (.bipush 7, 2) := by decide +kernel
theorem dX9_delivers_16 : decode cX9_delivers 16 = .ok (.aload_n 0, 1) := by decide +kernel
theorem dX9_delivers_17 : decode cX9_delivers 17 = .ok (.getfield 223, 3) := by decide +kernel
theorem dX9_delivers_20 : decode cX9_delivers 20 = .ok (.iadd, 1) := by decide +kernel
theorem dX9_delivers_21 : decode cX9_delivers 21 = .ok (.goto 7, 3) := by decide +kernel
theorem dX9_delivers_24 : decode cX9_delivers 24 = .ok (.aload_n 0, 1) := by decide +kernel
theorem dX9_delivers_25 : decode cX9_delivers 25 = .ok (.getfield 220, 3) := by decide +kernel
theorem dX9_delivers_28 : decode cX9_delivers 28 = .ok (.istore_n 2, 1) := by decide +kernel
theorem dX9_delivers_29 : decode cX9_delivers 29 = .ok (.aload_n 0, 1) := by decide +kernel
theorem dX9_delivers_30 : decode cX9_delivers 30 = .ok (.getfield 17, 3) := by decide +kernel
theorem dX9_delivers_33 : decode cX9_delivers 33 = .ok (.iload_n 2, 1) := by decide +kernel
theorem dX9_delivers_34 : decode cX9_delivers 34 = .ok (.baload, 1) := by decide +kernel
theorem dX9_delivers_35 : decode cX9_delivers 35 = .ok (.ifCond .eq 10, 3) := by decide +kernel
theorem dX9_delivers_38 : decode cX9_delivers 38 = .ok (.aload_n 0, 1) := by decide +kernel
theorem dX9_delivers_39 : decode cX9_delivers 39 = .ok (.iload_n 1, 1) := by decide +kernel
theorem dX9_delivers_40 : decode cX9_delivers 40 = .ok (.invokevirtual 280, 3) := by decide +kernel
theorem dX9_delivers_43 : decode cX9_delivers 43 = .ok (.iconst 0, 1) := by decide +kernel
theorem dX9_delivers_44 : decode cX9_delivers 44 = .ok (.ireturn, 1) := by decide +kernel
theorem dX9_delivers_45 : decode cX9_delivers 45 = .ok (.aload_n 0, 1) := by decide +kernel
theorem dX9_delivers_46 : decode cX9_delivers 46 = .ok (.iload_n 2, 1) := by decide +kernel
theorem dX9_delivers_47 : decode cX9_delivers 47 = .ok (.iload_n 1, 1) := by decide +kernel
theorem dX9_delivers_48 : decode cX9_delivers 48 = .ok (.invokevirtual 283, 3) := by decide +kernel
theorem dX9_delivers_51 : decode cX9_delivers 51 = .ok (.aload_n 0, 1) := by decide +kernel
theorem dX9_delivers_52 : decode cX9_delivers 52 = .ok (.iload_n 1, 1) := by decide +kernel
theorem dX9_delivers_53 : decode cX9_delivers 53 = .ok (.invokevirtual 280, 3) := by decide +kernel
theorem dX9_delivers_56 : decode cX9_delivers 56 = .ok (.aload_n 0, 1) := by decide +kernel
theorem dX9_delivers_57 : decode cX9_delivers 57 = .ok (.aload_n 0, 1) := by decide +kernel
theorem dX9_delivers_58 : decode cX9_delivers 58 = .ok (.getfield 149, 3) := by decide +kernel
theorem dX9_delivers_61 : decode cX9_delivers 61 = .ok (.iconst 1, 1) := by decide +kernel
theorem dX9_delivers_62 : decode cX9_delivers 62 = .ok (.iadd, 1) := by decide +kernel
theorem dX9_delivers_63 : decode cX9_delivers 63 = .ok (.putfield 149, 3) := by decide +kernel
theorem dX9_delivers_66 : decode cX9_delivers 66 = .ok (.aload_n 0, 1) := by decide +kernel
theorem dX9_delivers_67 : decode cX9_delivers 67 = .ok (.getfield 217, 3) := by decide +kernel
theorem dX9_delivers_70 : decode cX9_delivers 70 = .ok (.bipush 10, 2) := by decide +kernel
theorem dX9_delivers_72 : decode cX9_delivers 72 = .ok (.if_icmp .lt 10, 3) := by decide +kernel
theorem dX9_delivers_75 : decode cX9_delivers 75 = .ok (.aload_n 0, 1) := by decide +kernel
theorem dX9_delivers_76 : decode cX9_delivers 76 = .ok (.invokevirtual 286, 3) := by decide +kernel
theorem dX9_delivers_79 : decode cX9_delivers 79 = .ok (.goto 7, 3) := by decide +kernel
theorem dX9_delivers_82 : decode cX9_delivers 82 = .ok (.aload_n 0, 1) := by decide +kernel
theorem dX9_delivers_83 : decode cX9_delivers 83 = .ok (.invokevirtual 289, 3) := by decide +kernel
theorem dX9_delivers_86 : decode cX9_delivers 86 = .ok (.iconst 1, 1) := by decide +kernel
theorem dX9_delivers_87 : decode cX9_delivers 87 = .ok (.ireturn, 1) := by decide +kernel
theorem dX9_deliver_0 : decode cX9_deliver 0 = .ok (.aload_n 0, 1) := by decide +kernel
theorem dX9_deliver_1 : decode cX9_deliver 1 = .ok (.iconst 0, 1) := by decide +kernel
theorem dX9_deliver_2 : decode cX9_deliver 2 = .ok (.putfield 140, 3) := by decide +kernel
theorem dX9_deliver_5 : decode cX9_deliver 5 = .ok (.aload_n 0, 1) := by decide +kernel
theorem dX9_deliver_6 : decode cX9_deliver 6 = .ok (.iload_n 1, 1) := by decide +kernel
theorem dX9_deliver_7 : decode cX9_deliver 7 = .ok (.invokevirtual 292, 3) := by decide +kernel
theorem dX9_deliver_10 : decode cX9_deliver 10 = .ok (.ifCond .eq 11, 3) := by decide +kernel
theorem dX9_deliver_13 : decode cX9_deliver 13 = .ok (.aload_n 0, 1) := by decide +kernel
theorem dX9_deliver_14 : decode cX9_deliver 14 = .ok (.iload_n 1, 1) := by decide +kernel
theorem dX9_deliver_15 : decode cX9_deliver 15 = .ok (.invokevirtual 295, 3) := by decide +kernel
theorem dX9_deliver_18 : decode cX9_deliver 18 = .ok (.goto 4, 3) := by decide +kernel
theorem dX9_deliver_21 : decode cX9_deliver 21 = .ok (.iconst (-1), 1) := by decide +kernel
theorem dX9_deliver_22 : decode cX9_deliver 22 = .ok (.ireturn, 1) := by decide +kernel
theorem dX9_lose_0 : decode cX9_lose 0 = .ok (.aload_n 0, 1) := by decide +kernel
theorem dX9_lose_1 : decode cX9_lose 1 = .ok (.iconst 0, 1) := by decide +kernel
theorem dX9_lose_2 : decode cX9_lose 2 = .ok (.putfield 140, 3) := by decide +kernel
theorem dX9_lose_5 : decode cX9_lose 5 = .ok (.aload_n 0, 1) := by decide +kernel
theorem dX9_lose_6 : decode cX9_lose 6 = .ok (.iload_n 1, 1) := by decide +kernel
theorem dX9_lose_7 : decode cX9_lose 7 = .ok (.invokevirtual 292, 3) := by decide +kernel
theorem dX9_lose_10 : decode cX9_lose 10 = .ok (.ifCond .ne 5, 3) := by decide +kernel
theorem dX9_lose_13 : decode cX9_lose 13 = .ok (.iconst 0, 1) := by decide +kernel
theorem dX9_lose_14 : decode cX9_lose 14 = .ok (.ireturn, 1) := by decide +kernel
theorem dX9_lose_15 : decode cX9_lose 15 = .ok (.aload_n 0, 1) := by decide +kernel
theorem dX9_lose_16 : decode cX9_lose 16 = .ok (.iload_n 1, 1) := by decide +kernel
theorem dX9_lose_17 : decode cX9_lose 17 = .ok (.invokevirtual 280, 3) := by decide +kernel
theorem dX9_lose_20 : decode cX9_lose 20 = .ok (.iconst 1, 1) := by decide +kernel
theorem dX9_lose_21 : decode cX9_lose 21 = .ok (.ireturn, 1) := by decide +kernel
theorem dX9_run_0 : decode cX9_run 0 = .ok (.aload_n 0, 1) := by decide +kernel
theorem dX9_run_1 : decode cX9_run 1 = .ok (.iconst 0, 1) := by decide +kernel
theorem dX9_run_2 : decode cX9_run 2 = .ok (.putfield 140, 3) := by decide +kernel
theorem dX9_run_5 : decode cX9_run 5 = .ok (.iload_n 2, 1) := by decide +kernel
theorem dX9_run_6 : decode cX9_run 6 = .ok (.ifCond .lt 10, 3) := by decide +kernel
theorem dX9_run_9 : decode cX9_run 9 = .ok (.iload_n 2, 1) := by decide +kernel
theorem dX9_run_10 : decode cX9_run 10 = .ok (.sipush 1000, 3) := by decide +kernel
theorem dX9_run_13 : decode cX9_run 13 = .ok (.if_icmp .le 5, 3) := by decide +kernel
theorem dX9_run_16 : decode cX9_run 16 = .ok (.iconst (-1), 1) := by decide +kernel
theorem dX9_run_17 : decode cX9_run 17 = .ok (.ireturn, 1) := by decide +kernel
theorem dX9_run_18 : decode cX9_run 18 = .ok (.iload_n 1, 1) := by decide +kernel
theorem dX9_run_19 : decode cX9_run 19 = .ok (.istore_n 3, 1) := by decide +kernel
theorem dX9_run_20 : decode cX9_run 20 = .ok (.iconst 0, 1) := by decide +kernel
theorem dX9_run_21 : decode cX9_run 21 = .ok (.istore 4, 2) := by decide +kernel
theorem dX9_run_23 : decode cX9_run 23 = .ok (.iload 4, 2) := by decide +kernel
theorem dX9_run_25 : decode cX9_run 25 = .ok (.iload_n 2, 1) := by decide +kernel
theorem dX9_run_26 : decode cX9_run 26 = .ok (.if_icmp .ge 43, 3) := by decide +kernel
theorem dX9_run_29 : decode cX9_run 29 = .ok (.aload_n 0, 1) := by decide +kernel
theorem dX9_run_30 : decode cX9_run 30 = .ok (.getfield 143, 3) := by decide +kernel
theorem dX9_run_33 : decode cX9_run 33 = .ok (.ifCond .le 36, 3) := by decide +kernel
theorem dX9_run_36 : decode cX9_run 36 = .ok (.iload_n 3, 1) := by decide +kernel
theorem dX9_run_37 : decode cX9_run 37 = .ok (.ldc_w 298, 3) := by decide +kernel
theorem dX9_run_40 : decode cX9_run 40 = .ok (.imul, 1) := by decide +kernel
theorem dX9_run_41 : decode cX9_run 41 = .ok (.sipush 12345, 3) := by decide +kernel
theorem dX9_run_44 : decode cX9_run 44 = .ok (.iadd, 1) := by decide +kernel
theorem dX9_run_45 : decode cX9_run 45 = .ok (.istore_n 3, 1) := by decide +kernel
theorem dX9_run_46 : decode cX9_run 46 = .ok (.aload_n 0, 1) := by decide +kernel
theorem dX9_run_47 : decode cX9_run 47 = .ok (.iload_n 3, 1) := by decide +kernel
theorem dX9_run_48 : decode cX9_run 48 = .ok (.bipush 16, 2) := by decide +kernel
theorem dX9_run_50 : decode cX9_run 50 = .ok (.iushr, 1) := by decide +kernel
theorem dX9_run_51 : decode cX9_run 51 = .ok (.aload_n 0, 1) := by decide +kernel
theorem dX9_run_52 : decode cX9_run 52 = .ok (.getfield 143, 3) := by decide +kernel
theorem dX9_run_55 : decode cX9_run 55 = .ok (.irem, 1) := by decide +kernel
theorem dX9_run_56 : decode cX9_run 56 = .ok (.invokevirtual 295, 3) := by decide +kernel
theorem dX9_run_59 : decode cX9_run 59 = .ok (.pop, 1) := by decide +kernel
theorem dX9_run_60 : decode cX9_run 60 = .ok (.iload 4, 2) := by decide +kernel
theorem dX9_run_62 : decode cX9_run 62 = .ok (.iconst 1, 1) := by decide +kernel
theorem dX9_run_63 : decode cX9_run 63 = .ok (.iadd, 1) := by decide +kernel
theorem dX9_run_64 : decode cX9_run 64 = .ok (.istore 4, 2) := by decide +kernel
theorem dX9_run_66 : decode cX9_run 66 = .ok (.goto (-43), 3) := by decide +kernel
theorem dX9_run_69 : decode cX9_run 69 = .ok (.iload 4, 2) := by decide +kernel
theorem dX9_run_71 : decode cX9_run 71 = .ok (.ireturn, 1) := by decide +kernel
theorem dX9_who_0 : decode cX9_who 0 = .ok (.iload_n 1, 1) := by decide +kernel
theorem dX9_who_1 : decode cX9_who 1 = .ok (.ifCond .eq 20, 3) := by decide +kernel
theorem dX9_who_4 : decode cX9_who 4 = .ok (.aload_n 0, 1) := by decide +kernel
theorem dX9_who_5 : decode cX9_who 5 = .ok (.iload_n 2, 1) := by decide +kernel
theorem dX9_who_6 : decode cX9_who 6 = .ok (.invokevirtual 201, 3) := by decide +kernel
theorem dX9_who_9 : decode cX9_who 9 = .ok (.ifCond .eq 10, 3) := by decide +kernel
theorem dX9_who_12 : decode cX9_who 12 = .ok (.bipush 7, 2) := by decide +kernel
theorem dX9_who_14 : decode cX9_who 14 = .ok (.iload_n 2, 1) := by decide +kernel
theorem dX9_who_15 : decode cX9_who 15 = .ok (.iadd, 1) := by decide +kernel
theorem dX9_who_16 : decode cX9_who 16 = .ok (.goto 4, 3) := by decide +kernel
theorem dX9_who_19 : decode cX9_who 19 = .ok (.iconst (-1), 1) := by decide +kernel
theorem dX9_who_20 : decode cX9_who 20 = .ok (.ireturn, 1) := by decide +kernel
theorem dX9_who_21 : decode cX9_who 21 = .ok (.iload_n 2, 1) := by decide +kernel
theorem dX9_who_22 : decode cX9_who 22 = .ok (.ifCond .lt 15, 3) := by decide +kernel
theorem dX9_who_25 : decode cX9_who 25 = .ok (.iload_n 2, 1) := by decide +kernel
theorem dX9_who_26 : decode cX9_who 26 = .ok (.aload_n 0, 1) := by decide +kernel
theorem dX9_who_27 : decode cX9_who 27 = .ok (.getfield 7, 3) := by decide +kernel
theorem dX9_who_30 : decode cX9_who 30 = .ok (.if_icmp .ge 7, 3) := by decide +kernel
theorem dX9_who_33 : decode cX9_who 33 = .ok (.iload_n 2, 1) := by decide +kernel
theorem dX9_who_34 : decode cX9_who 34 = .ok (.goto 4, 3) := by decide +kernel
theorem dX9_who_37 : decode cX9_who 37 = .ok (.iconst (-1), 1) := by decide +kernel
theorem dX9_who_38 : decode cX9_who 38 = .ok (.ireturn, 1) := by decide +kernel
theorem dX9_stop_0 : decode cX9_stop 0 = .ok (.aload_n 0, 1) := by decide +kernel
theorem dX9_stop_1 : decode cX9_stop 1 = .ok (.iconst 0, 1) := by decide +kernel
theorem dX9_stop_2 : decode cX9_stop 2 = .ok (.putfield 140, 3) := by decide +kernel
theorem dX9_stop_5 : decode cX9_stop 5 = .ok (.aload_n 0, 1) := by decide +kernel
theorem dX9_stop_6 : decode cX9_stop 6 = .ok (.iload_n 1, 1) := by decide +kernel
theorem dX9_stop_7 : decode cX9_stop 7 = .ok (.iload_n 2, 1) := by decide +kernel
theorem dX9_stop_8 : decode cX9_stop 8 = .ok (.invokevirtual 299, 3) := by decide +kernel
theorem dX9_stop_11 : decode cX9_stop 11 = .ok (.istore_n 3, 1) := by decide +kernel
theorem dX9_stop_12 : decode cX9_stop 12 = .ok (.iload_n 3, 1) := by decide +kernel
theorem dX9_stop_13 : decode cX9_stop 13 = .ok (.iconst (-1), 1) := by decide +kernel
theorem dX9_stop_14 : decode cX9_stop 14 = .ok (.if_icmp .eq 12, 3) := by decide +kernel
theorem dX9_stop_17 : decode cX9_stop 17 = .ok (.aload_n 0, 1) := by decide +kernel
theorem dX9_stop_18 : decode cX9_stop 18 = .ok (.getfield 17, 3) := by decide +kernel
theorem dX9_stop_21 : decode cX9_stop 21 = .ok (.iload_n 3, 1) := by decide +kernel
theorem dX9_stop_22 : decode cX9_stop 22 = .ok (.baload, 1) := by decide +kernel
theorem dX9_stop_23 : decode cX9_stop 23 = .ok (.ifCond .eq 5, 3) := by decide +kernel
theorem dX9_stop_26 : decode cX9_stop 26 = .ok (.iconst 0, 1) := by decide +kernel
theorem dX9_stop_27 : decode cX9_stop 27 = .ok (.ireturn, 1) := by decide +kernel
theorem dX9_stop_28 : decode cX9_stop 28 = .ok (.aload_n 0, 1) := by decide +kernel
theorem dX9_stop_29 : decode cX9_stop 29 = .ok (.getfield 17, 3) := by decide +kernel
theorem dX9_stop_32 : decode cX9_stop 32 = .ok (.iload_n 3, 1) := by decide +kernel
theorem dX9_stop_33 : decode cX9_stop 33 = .ok (.iconst 1, 1) := by decide +kernel
theorem dX9_stop_34 : decode cX9_stop 34 = .ok (.bastore, 1) := by decide +kernel
theorem dX9_stop_35 : decode cX9_stop 35 = .ok (.iconst 1, 1) := by decide +kernel
theorem dX9_stop_36 : decode cX9_stop 36 = .ok (.ireturn, 1) := by decide +kernel
theorem dX9_bag_0 : decode cX9_bag 0 = .ok (.aload_n 0, 1) := by decide +kernel
theorem dX9_bag_1 : decode cX9_bag 1 = .ok (.iconst 0, 1) := by decide +kernel
theorem dX9_bag_2 : decode cX9_bag 2 = .ok (.putfield 140, 3) := by decide +kernel
theorem dX9_bag_5 : decode cX9_bag 5 = .ok (.aload_n 0, 1) := by decide +kernel
theorem dX9_bag_6 : decode cX9_bag 6 = .ok (.getfield 143, 3) := by decide +kernel
theorem dX9_bag_9 : decode cX9_bag 9 = .ok (.ireturn, 1) := by decide +kernel
theorem dX9_message_0 : decode cX9_message 0 = .ok (.aload_n 0, 1) := by decide +kernel
theorem dX9_message_1 : decode cX9_message 1 = .ok (.iconst 0, 1) := by decide +kernel
theorem dX9_message_2 : decode cX9_message 2 = .ok (.putfield 140, 3) := by decide +kernel
theorem dX9_message_5 : decode cX9_message 5 = .ok (.aload_n 0, 1) := by decide +kernel
theorem dX9_message_6 : decode cX9_message 6 = .ok (.iload_n 1, 1) := by decide +kernel
theorem dX9_message_7 : decode cX9_message 7 = .ok (.invokevirtual 292, 3) := by decide +kernel
theorem dX9_message_10 : decode cX9_message 10 = .ok (.ifCond .eq 13, 3) := by decide +kernel
theorem dX9_message_13 : decode cX9_message 13 = .ok (.iload_n 2, 1) := by decide +kernel
theorem dX9_message_14 : decode cX9_message 14 = .ok (.ifCond .lt 9, 3) := by decide +kernel
theorem dX9_message_17 : decode cX9_message 17 = .ok (.iload_n 2, 1) := by decide +kernel
theorem dX9_message_18 : decode cX9_message 18 = .ok (.bipush 13, 2) := by decide +kernel
theorem dX9_message_20 : decode cX9_message 20 = .ok (.if_icmp .le 6, 3) := by decide +kernel
theorem dX9_message_23 : decode cX9_message 23 = .ok (.bipush (-2), 2) := by decide +kernel
theorem dX9_message_25 : decode cX9_message 25 = .ok (.ireturn, 1) := by decide +kernel
theorem dX9_message_26 : decode cX9_message 26 = .ok (.iload_n 2, 1) := by decide +kernel
theorem dX9_message_27 : decode cX9_message 27 = .ok (.bipush 8, 2) := by decide +kernel
theorem dX9_message_29 : decode cX9_message 29 = .ok (.if_icmp .lt 18, 3) := by decide +kernel
theorem dX9_message_32 : decode cX9_message 32 = .ok (.aload_n 0, 1) := by decide +kernel
theorem dX9_message_33 : decode cX9_message 33 = .ok (.getfield 73, 3) := by decide +kernel
theorem dX9_message_36 : decode cX9_message 36 = .ok (.bipush 6, 2) := by decide +kernel
theorem dX9_message_38 : decode cX9_message 38 = .ok (.iload_n 1, 1) := by decide +kernel
theorem dX9_message_39 : decode cX9_message 39 = .ok (.imul, 1) := by decide +kernel
theorem dX9_message_40 : decode cX9_message 40 = .ok (.iload_n 2, 1) := by decide +kernel
theorem dX9_message_41 : decode cX9_message 41 = .ok (.iadd, 1) := by decide +kernel
theorem dX9_message_42 : decode cX9_message 42 = .ok (.bipush 8, 2) := by decide +kernel
theorem dX9_message_44 : decode cX9_message 44 = .ok (.isub, 1) := by decide +kernel
theorem dX9_message_45 : decode cX9_message 45 = .ok (.iaload, 1) := by decide +kernel
theorem dX9_message_46 : decode cX9_message 46 = .ok (.ireturn, 1) := by decide +kernel
theorem dX9_message_47 : decode cX9_message 47 = .ok (.iload_n 2, 1) := by decide +kernel
theorem dX9_message_48 : decode cX9_message 48 = .ok (.ifCond .ne 10, 3) := by decide +kernel
theorem dX9_message_51 : decode cX9_message 51 = .ok (.aload_n 0, 1) := by decide +kernel
theorem dX9_message_52 : decode cX9_message 52 = .ok (.getfield 36, 3) := by decide +kernel
theorem dX9_message_55 : decode cX9_message 55 = .ok (.iload_n 1, 1) := by decide +kernel
theorem dX9_message_56 : decode cX9_message 56 = .ok (.iaload, 1) := by decide +kernel
theorem dX9_message_57 : decode cX9_message 57 = .ok (.ireturn, 1) := by decide +kernel
theorem dX9_message_58 : decode cX9_message 58 = .ok (.iload_n 2, 1) := by decide +kernel
theorem dX9_message_59 : decode cX9_message 59 = .ok (.iconst 1, 1) := by decide +kernel
theorem dX9_message_60 : decode cX9_message 60 = .ok (.if_icmp .ne 10, 3) := by decide +kernel
theorem dX9_message_63 : decode cX9_message 63 = .ok (.aload_n 0, 1) := by decide +kernel
theorem dX9_message_64 : decode cX9_message 64 = .ok (.getfield 39, 3) := by decide +kernel
theorem dX9_message_67 : decode cX9_message 67 = .ok (.iload_n 1, 1) := by decide +kernel
theorem dX9_message_68 : decode cX9_message 68 = .ok (.iaload, 1) := by decide +kernel
theorem dX9_message_69 : decode cX9_message 69 = .ok (.ireturn, 1) := by decide +kernel
theorem dX9_message_70 : decode cX9_message 70 = .ok (.iload_n 2, 1) := by decide +kernel
theorem dX9_message_71 : decode cX9_message 71 = .ok (.iconst 2, 1) := by decide +kernel
theorem dX9_message_72 : decode cX9_message 72 = .ok (.if_icmp .ne 10, 3) := by decide +kernel
theorem dX9_message_75 : decode cX9_message 75 = .ok (.aload_n 0, 1) := by decide +kernel
theorem dX9_message_76 : decode cX9_message 76 = .ok (.getfield 42, 3) := by decide +kernel
theorem dX9_message_79 : decode cX9_message 79 = .ok (.iload_n 1, 1) := by decide +kernel
theorem dX9_message_80 : decode cX9_message 80 = .ok (.iaload, 1) := by decide +kernel
theorem dX9_message_81 : decode cX9_message 81 = .ok (.ireturn, 1) := by decide +kernel
theorem dX9_message_82 : decode cX9_message 82 = .ok (.iload_n 2, 1) := by decide +kernel
theorem dX9_message_83 : decode cX9_message 83 = .ok (.iconst 3, 1) := by decide +kernel
theorem dX9_message_84 : decode cX9_message 84 = .ok (.if_icmp .ne 10, 3) := by decide +kernel
theorem dX9_message_87 : decode cX9_message 87 = .ok (.aload_n 0, 1) := by decide +kernel
theorem dX9_message_88 : decode cX9_message 88 = .ok (.getfield 45, 3) := by decide +kernel
theorem dX9_message_91 : decode cX9_message 91 = .ok (.iload_n 1, 1) := by decide +kernel
theorem dX9_message_92 : decode cX9_message 92 = .ok (.iaload, 1) := by decide +kernel
theorem dX9_message_93 : decode cX9_message 93 = .ok (.ireturn, 1) := by decide +kernel
theorem dX9_message_94 : decode cX9_message 94 = .ok (.iload_n 2, 1) := by decide +kernel
theorem dX9_message_95 : decode cX9_message 95 = .ok (.iconst 4, 1) := by decide +kernel
theorem dX9_message_96 : decode cX9_message 96 = .ok (.if_icmp .ne 10, 3) := by decide +kernel
theorem dX9_message_99 : decode cX9_message 99 = .ok (.aload_n 0, 1) := by decide +kernel
theorem dX9_message_100 : decode cX9_message 100 = .ok (.getfield 48, 3) := by decide +kernel
theorem dX9_message_103 : decode cX9_message 103 = .ok (.iload_n 1, 1) := by decide +kernel
theorem dX9_message_104 : decode cX9_message 104 = .ok (.iaload, 1) := by decide +kernel
theorem dX9_message_105 : decode cX9_message 105 = .ok (.ireturn, 1) := by decide +kernel
theorem dX9_message_106 : decode cX9_message 106 = .ok (.iload_n 2, 1) := by decide +kernel
theorem dX9_message_107 : decode cX9_message 107 = .ok (.iconst 5, 1) := by decide +kernel
theorem dX9_message_108 : decode cX9_message 108 = .ok (.if_icmp .ne 10, 3) := by decide +kernel
theorem dX9_message_111 : decode cX9_message 111 = .ok (.aload_n 0, 1) := by decide +kernel
theorem dX9_message_112 : decode cX9_message 112 = .ok (.getfield 51, 3) := by decide +kernel
theorem dX9_message_115 : decode cX9_message 115 = .ok (.iload_n 1, 1) := by decide +kernel
theorem dX9_message_116 : decode cX9_message 116 = .ok (.iaload, 1) := by decide +kernel
theorem dX9_message_117 : decode cX9_message 117 = .ok (.ireturn, 1) := by decide +kernel
theorem dX9_message_118 : decode cX9_message 118 = .ok (.iload_n 2, 1) := by decide +kernel
theorem dX9_message_119 : decode cX9_message 119 = .ok (.bipush 6, 2) := by decide +kernel
theorem dX9_message_121 : decode cX9_message 121 = .ok (.if_icmp .ne 10, 3) := by decide +kernel
theorem dX9_message_124 : decode cX9_message 124 = .ok (.aload_n 0, 1) := by decide +kernel
theorem dX9_message_125 : decode cX9_message 125 = .ok (.getfield 54, 3) := by decide +kernel
theorem dX9_message_128 : decode cX9_message 128 = .ok (.iload_n 1, 1) := by decide +kernel
theorem dX9_message_129 : decode cX9_message 129 = .ok (.iaload, 1) := by decide +kernel
theorem dX9_message_130 : decode cX9_message 130 = .ok (.ireturn, 1) := by decide +kernel
theorem dX9_message_131 : decode cX9_message 131 = .ok (.aload_n 0, 1) := by decide +kernel
theorem dX9_message_132 : decode cX9_message 132 = .ok (.getfield 69, 3) := by decide +kernel
theorem dX9_message_135 : decode cX9_message 135 = .ok (.iload_n 1, 1) := by decide +kernel
theorem dX9_message_136 : decode cX9_message 136 = .ok (.baload, 1) := by decide +kernel
theorem dX9_message_137 : decode cX9_message 137 = .ok (.ifCond .eq 7, 3) := by decide +kernel
theorem dX9_message_140 : decode cX9_message 140 = .ok (.iconst 1, 1) := by decide +kernel
theorem dX9_message_141 : decode cX9_message 141 = .ok (.goto 4, 3) := by decide +kernel
theorem dX9_message_144 : decode cX9_message 144 = .ok (.iconst 0, 1) := by decide +kernel
theorem dX9_message_145 : decode cX9_message 145 = .ok (.ireturn, 1) := by decide +kernel
theorem dX9_map_0 : decode cX9_map 0 = .ok (.aload_n 0, 1) := by decide +kernel
theorem dX9_map_1 : decode cX9_map 1 = .ok (.iconst 0, 1) := by decide +kernel
theorem dX9_map_2 : decode cX9_map 2 = .ok (.putfield 140, 3) := by decide +kernel
theorem dX9_map_5 : decode cX9_map 5 = .ok (.aload_n 0, 1) := by decide +kernel
theorem dX9_map_6 : decode cX9_map 6 = .ok (.iload_n 1, 1) := by decide +kernel
theorem dX9_map_7 : decode cX9_map 7 = .ok (.iload_n 2, 1) := by decide +kernel
theorem dX9_map_8 : decode cX9_map 8 = .ok (.invokevirtual 299, 3) := by decide +kernel
theorem dX9_map_11 : decode cX9_map 11 = .ok (.istore 4, 2) := by decide +kernel
theorem dX9_map_13 : decode cX9_map 13 = .ok (.iload 4, 2) := by decide +kernel
