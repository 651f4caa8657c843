theorem dX9_lay_123 : decode cX9_lay 123 = .ok (.iload 8, 2) := by decide +kernel
theorem dX9_lay_125 : decode cX9_lay 125 = .ok (.iadd, 1) := by decide +kernel
theorem dX9_lay_126 : decode cX9_lay 126 = .ok (.aload_n 0, 1) := by decide +kernel
theorem dX9_lay_127 : decode cX9_lay 127 = .ok (.getfield 13, 3) := by decide +kernel
theorem dX9_lay_130 : decode cX9_lay 130 = .ok (.bipush 6, 2) := by decide +kernel
theorem dX9_lay_132 : decode cX9_lay 132 = .ok (.iload 6, 2) := by decide +kernel
theorem dX9_lay_134 : decode cX9_lay 134 = .ok (.imul, 1) := by decide +kernel
theorem dX9_lay_135 : decode cX9_lay 135 = .ok (.iload 8, 2) := by decide +kernel
theorem dX9_lay_137 : decode cX9_lay 137 = .ok (.iadd, 1) := by decide +kernel
theorem dX9_lay_138 : decode cX9_lay 138 = .ok (.iaload, 1) := by decide +kernel
theorem dX9_lay_139 : decode cX9_lay 139 = .ok (.iastore, 1) := by decide +kernel
theorem dX9_lay_140 : decode cX9_lay 140 = .ok (.iinc 8 1, 3) := by decide +kernel
theorem dX9_lay_143 : decode cX9_lay 143 = .ok (.goto (-36), 3) := by decide +kernel
theorem dX9_lay_146 : decode cX9_lay 146 = .ok (.aload_n 0, 1) := by decide +kernel
theorem dX9_lay_147 : decode cX9_lay 147 = .ok (.aload_n 0, 1) := by decide +kernel
theorem dX9_lay_148 : decode cX9_lay 148 = .ok (.getfield 143, 3) := by decide +kernel
theorem dX9_lay_151 : decode cX9_lay 151 = .ok (.iconst 1, 1) := by decide +kernel
theorem dX9_lay_152 : decode cX9_lay 152 = .ok (.iadd, 1) := by decide +kernel
theorem dX9_lay_153 : decode cX9_lay 153 = .ok (.putfield 143, 3) := by decide +kernel
theorem dX9_lay_156 : decode cX9_lay 156 = .ok (.aload_n 0, 1) := by decide +kernel
theorem dX9_lay_157 : decode cX9_lay 157 = .ok (.aload_n 0, 1) := by decide +kernel
theorem dX9_lay_158 : decode cX9_lay 158 = .ok (.getfield 146, 3) := by decide +kernel
theorem dX9_lay_161 : decode cX9_lay 161 = .ok (.iconst 1, 1) := by decide +kernel
theorem dX9_lay_162 : decode cX9_lay 162 = .ok (.iadd, 1) := by decide +kernel
theorem dX9_lay_163 : decode cX9_lay 163 = .ok (.putfield 146, 3) := by decide +kernel
theorem dX9_lay_166 : decode cX9_lay 166 = .ok (.iload 7, 2) := by decide +kernel
theorem dX9_lay_168 : decode cX9_lay 168 = .ok (.ireturn, 1) := by decide +kernel
theorem dX9_shift_0 : decode cX9_shift 0 = .ok (.aload_n 0, 1) := by decide +kernel
theorem dX9_shift_1 : decode cX9_shift 1 = .ok (.aload_n 0, 1) := by decide +kernel
theorem dX9_shift_2 : decode cX9_shift 2 = .ok (.getfield 143, 3) := by decide +kernel
theorem dX9_shift_5 : decode cX9_shift 5 = .ok (.iconst 1, 1) := by decide +kernel
theorem dX9_shift_6 : decode cX9_shift 6 = .ok (.isub, 1) := by decide +kernel
theorem dX9_shift_7 : decode cX9_shift 7 = .ok (.putfield 143, 3) := by decide +kernel
theorem dX9_shift_10 : decode cX9_shift 10 = .ok (.iload_n 1, 1) := by decide +kernel
theorem dX9_shift_11 : decode cX9_shift 11 = .ok (.istore_n 2, 1) := by decide +kernel
theorem dX9_shift_12 : decode cX9_shift 12 = .ok (.iload_n 2, 1) := by decide +kernel
theorem dX9_shift_13 : decode cX9_shift 13 = .ok (.aload_n 0, 1) := by decide +kernel
theorem dX9_shift_14 : decode cX9_shift 14 = .ok (.getfield 143, 3) := by decide +kernel
theorem dX9_shift_17 : decode cX9_shift 17 = .ok (.if_icmp .ge 177, 3) := by decide +kernel
theorem dX9_shift_20 : decode cX9_shift 20 = .ok (.aload_n 0, 1) := by decide +kernel
theorem dX9_shift_21 : decode cX9_shift 21 = .ok (.getfield 36, 3) := by decide +kernel
theorem dX9_shift_24 : decode cX9_shift 24 = .ok (.iload_n 2, 1) := by decide +kernel
theorem dX9_shift_25 : decode cX9_shift 25 = .ok (.aload_n 0, 1) := by decide +kernel
theorem dX9_shift_26 : decode cX9_shift 26 = .ok (.getfield 36, 3) := by decide +kernel
theorem dX9_shift_29 : decode cX9_shift 29 = .ok (.iload_n 2, 1) := by decide +kernel
theorem dX9_shift_30 : decode cX9_shift 30 = .ok (.iconst 1, 1) := by decide +kernel
theorem dX9_shift_31 : decode cX9_shift 31 = .ok (.iadd, 1) := by decide +kernel
theorem dX9_shift_32 : decode cX9_shift 32 = .ok (.iaload, 1) := by decide +kernel
theorem dX9_shift_33 : decode cX9_shift 33 = .ok (.iastore, 1) := by decide +kernel
theorem dX9_shift_34 : decode cX9_shift 34 = .ok (.aload_n 0, 1) := by decide +kernel
theorem dX9_shift_35 : decode cX9_shift 35 = .ok (.getfield 39, 3) := by decide +kernel
theorem dX9_shift_38 : decode cX9_shift 38 = .ok (.iload_n 2, 1) := by decide +kernel
theorem dX9_shift_39 : decode cX9_shift 39 = .ok (.aload_n 0, 1) := by decide +kernel
theorem dX9_shift_40 : decode cX9_shift 40 = .ok (.getfield 39, 3) := by decide +kernel
theorem dX9_shift_43 : decode cX9_shift 43 = .ok (.iload_n 2, 1) := by decide +kernel
theorem dX9_shift_44 : decode cX9_shift 44 = .ok (.iconst 1, 1) := by decide +kernel
theorem dX9_shift_45 : decode cX9_shift 45 = .ok (.iadd, 1) := by decide +kernel
theorem dX9_shift_46 : decode cX9_shift 46 = .ok (.iaload, 1) := by decide +kernel
theorem dX9_shift_47 : decode cX9_shift 47 = .ok (.iastore, 1) := by decide +kernel
theorem dX9_shift_48 : decode cX9_shift 48 = .ok (.aload_n 0, 1) := by decide +kernel
theorem dX9_shift_49 : decode cX9_shift 49 = .ok (.getfield 42, 3) := by decide +kernel
theorem dX9_shift_52 : decode cX9_shift 52 = .ok (.iload_n 2, 1) := by decide +kernel
theorem dX9_shift_53 : decode cX9_shift 53 = .ok (.aload_n 0, 1) := by decide +kernel
theorem dX9_shift_54 : decode cX9_shift 54 = .ok (.getfield 42, 3) := by decide +kernel
theorem dX9_shift_57 : decode cX9_shift 57 = .ok (.iload_n 2, 1) := by decide +kernel
theorem dX9_shift_58 : decode cX9_shift 58 = .ok (.iconst 1, 1) := by decide +kernel
theorem dX9_shift_59 : decode cX9_shift 59 = .ok (.iadd, 1) := by decide +kernel
theorem dX9_shift_60 : decode cX9_shift 60 = .ok (.iaload, 1) := by decide +kernel
theorem dX9_shift_61 : decode cX9_shift 61 = .ok (.iastore, 1) := by decide +kernel
theorem dX9_shift_62 : decode cX9_shift 62 = .ok (.aload_n 0, 1) := by decide +kernel
theorem dX9_shift_63 : decode cX9_shift 63 = .ok (.getfield 45, 3) := by decide +kernel
theorem dX9_shift_66 : decode cX9_shift 66 = .ok (.iload_n 2, 1) := by decide +kernel
theorem dX9_shift_67 : decode cX9_shift 67 = .ok (.aload_n 0, 1) := by decide +kernel
theorem dX9_shift_68 : decode cX9_shift 68 = .ok (.getfield 45, 3) := by decide +kernel
theorem dX9_shift_71 : decode cX9_shift 71 = .ok (.iload_n 2, 1) := by decide +kernel
theorem dX9_shift_72 : decode cX9_shift 72 = .ok (.iconst 1, 1) := by decide +kernel
theorem dX9_shift_73 : decode cX9_shift 73 = .ok (.iadd, 1) := by decide +kernel
theorem dX9_shift_74 : decode cX9_shift 74 = .ok (.iaload, 1) := by decide +kernel
theorem dX9_shift_75 : decode cX9_shift 75 = .ok (.iastore, 1) := by decide +kernel
theorem dX9_shift_76 : decode cX9_shift 76 = .ok (.aload_n 0, 1) := by decide +kernel
theorem dX9_shift_77 : decode cX9_shift 77 = .ok (.getfield 48, 3) := by decide +kernel
theorem dX9_shift_80 : decode cX9_shift 80 = .ok (.iload_n 2, 1) := by decide +kernel
theorem dX9_shift_81 : decode cX9_shift 81 = .ok (.aload_n 0, 1) := by decide +kernel
theorem dX9_shift_82 : decode cX9_shift 82 = .ok (.getfield 48, 3) := by decide +kernel
theorem dX9_shift_85 : decode cX9_shift 85 = .ok (.iload_n 2, 1) := by decide +kernel
theorem dX9_shift_86 : decode cX9_shift 86 = .ok (.iconst 1, 1) := by decide +kernel
theorem dX9_shift_87 : decode cX9_shift 87 = .ok (.iadd, 1) := by decide +kernel
theorem dX9_shift_88 : decode cX9_shift 88 = .ok (.iaload, 1) := by decide +kernel
theorem dX9_shift_89 : decode cX9_shift 89 = .ok (.iastore, 1) := by decide +kernel
theorem dX9_shift_90 : decode cX9_shift 90 = .ok (.aload_n 0, 1) := by decide +kernel
theorem dX9_shift_91 : decode cX9_shift 91 = .ok (.getfield 51, 3) := by decide +kernel
theorem dX9_shift_94 : decode cX9_shift 94 = .ok (.iload_n 2, 1) := by decide +kernel
theorem dX9_shift_95 : decode cX9_shift 95 = .ok (.aload_n 0, 1) := by decide +kernel
theorem dX9_shift_96 : decode cX9_shift 96 = .ok (.getfield 51, 3) := by decide +kernel
theorem dX9_shift_99 : decode cX9_shift 99 = .ok (.iload_n 2, 1) := by decide +kernel
theorem dX9_shift_100 : decode cX9_shift 100 = .ok (.iconst 1, 1) := by decide +kernel
theorem dX9_shift_101 : decode cX9_shift 101 = .ok (.iadd, 1) := by decide +kernel
theorem dX9_shift_102 : decode cX9_shift 102 = .ok (.iaload, 1) := by decide +kernel
theorem dX9_shift_103 : decode cX9_shift 103 = .ok (.iastore, 1) := by decide +kernel
theorem dX9_shift_104 : decode cX9_shift 104 = .ok (.aload_n 0, 1) := by decide +kernel
theorem dX9_shift_105 : decode cX9_shift 105 = .ok (.getfield 54, 3) := by decide +kernel
theorem dX9_shift_108 : decode cX9_shift 108 = .ok (.iload_n 2, 1) := by decide +kernel
theorem dX9_shift_109 : decode cX9_shift 109 = .ok (.aload_n 0, 1) := by decide +kernel
theorem dX9_shift_110 : decode cX9_shift 110 = .ok (.getfield 54, 3) := by decide +kernel
theorem dX9_shift_113 : decode cX9_shift 113 = .ok (.iload_n 2, 1) := by decide +kernel
theorem dX9_shift_114 : decode cX9_shift 114 = .ok (.iconst 1, 1) := by decide +kernel
theorem dX9_shift_115 : decode cX9_shift 115 = .ok (.iadd, 1) := by decide +kernel
theorem dX9_shift_116 : decode cX9_shift 116 = .ok (.iaload, 1) := by decide +kernel
theorem dX9_shift_117 : decode cX9_shift 117 = .ok (.iastore, 1) := by decide +kernel
theorem dX9_shift_118 : decode cX9_shift 118 = .ok (.aload_n 0, 1) := by decide +kernel
theorem dX9_shift_119 : decode cX9_shift 119 = .ok (.getfield 57, 3) := by decide +kernel
theorem dX9_shift_122 : decode cX9_shift 122 = .ok (.iload_n 2, 1) := by decide +kernel
theorem dX9_shift_123 : decode cX9_shift 123 = .ok (.aload_n 0, 1) := by decide +kernel
theorem dX9_shift_124 : decode cX9_shift 124 = .ok (.getfield 57, 3) := by decide +kernel
theorem dX9_shift_127 : decode cX9_shift 127 = .ok (.iload_n 2, 1) := by decide +kernel
theorem dX9_shift_128 : decode cX9_shift 128 = .ok (.iconst 1, 1) := by decide +kernel
theorem dX9_shift_129 : decode cX9_shift 129 = .ok (.iadd, 1) := by decide +kernel
theorem dX9_shift_130 : decode cX9_shift 130 = .ok (.iaload, 1) := by decide +kernel
theorem dX9_shift_131 : decode cX9_shift 131 = .ok (.iastore, 1) := by decide +kernel
theorem dX9_shift_132 : decode cX9_shift 132 = .ok (.aload_n 0, 1) := by decide +kernel
theorem dX9_shift_133 : decode cX9_shift 133 = .ok (.getfield 60, 3) := by decide +kernel
theorem dX9_shift_136 : decode cX9_shift 136 = .ok (.iload_n 2, 1) := by decide +kernel
theorem dX9_shift_137 : decode cX9_shift 137 = .ok (.aload_n 0, 1) := by decide +kernel
theorem dX9_shift_138 : decode cX9_shift 138 = .ok (.getfield 60, 3) := by decide +kernel
theorem dX9_shift_141 : decode cX9_shift 141 = .ok (.iload_n 2, 1) := by decide +kernel
theorem dX9_shift_142 : decode cX9_shift 142 = .ok (.iconst 1, 1) := by decide +kernel
theorem dX9_shift_143 : decode cX9_shift 143 = .ok (.iadd, 1) := by decide +kernel
theorem dX9_shift_144 : decode cX9_shift 144 = .ok (.iaload, 1) := by decide +kernel
theorem dX9_shift_145 : decode cX9_shift 145 = .ok (.iastore, 1) := by decide +kernel
theorem dX9_shift_146 : decode cX9_shift 146 = .ok (.aload_n 0, 1) := by decide +kernel
theorem dX9_shift_147 : decode cX9_shift 147 = .ok (.getfield 63, 3) := by decide +kernel
theorem dX9_shift_150 : decode cX9_shift 150 = .ok (.iload_n 2, 1) := by decide +kernel
theorem dX9_shift_151 : decode cX9_shift 151 = .ok (.aload_n 0, 1) := by decide +kernel
theorem dX9_shift_152 : decode cX9_shift 152 = .ok (.getfield 63, 3) := by decide +kernel
theorem dX9_shift_155 : decode cX9_shift 155 = .ok (.iload_n 2, 1) := by decide +kernel
theorem dX9_shift_156 : decode cX9_shift 156 = .ok (.iconst 1, 1) := by decide +kernel
theorem dX9_shift_157 : decode cX9_shift 157 = .ok (.iadd, 1) := by decide +kernel
theorem dX9_shift_158 : decode cX9_shift 158 = .ok (.iaload, 1) := by decide +kernel
theorem dX9_shift_159 : decode cX9_shift 159 = .ok (.iastore, 1) := by decide +kernel
theorem dX9_shift_160 : decode cX9_shift 160 = .ok (.aload_n 0, 1) := by decide +kernel
theorem dX9_shift_161 : decode cX9_shift 161 = .ok (.getfield 66, 3) := by decide +kernel
theorem dX9_shift_164 : decode cX9_shift 164 = .ok (.iload_n 2, 1) := by decide +kernel
theorem dX9_shift_165 : decode cX9_shift 165 = .ok (.aload_n 0, 1) := by decide +kernel
theorem dX9_shift_166 : decode cX9_shift 166 = .ok (.getfield 66, 3) := by decide +kernel
theorem dX9_shift_169 : decode cX9_shift 169 = .ok (.iload_n 2, 1) := by decide +kernel
theorem dX9_shift_170 : decode cX9_shift 170 = .ok (.iconst 1, 1) := by decide +kernel
theorem dX9_shift_171 : decode cX9_shift 171 = .ok (.iadd, 1) := by decide +kernel
theorem dX9_shift_172 : decode cX9_shift 172 = .ok (.iaload, 1) := by decide +kernel
theorem dX9_shift_173 : decode cX9_shift 173 = .ok (.iastore, 1) := by decide +kernel
theorem dX9_shift_174 : decode cX9_shift 174 = .ok (.aload_n 0, 1) := by decide +kernel
theorem dX9_shift_175 : decode cX9_shift 175 = .ok (.getfield 69, 3) := by decide +kernel
theorem dX9_shift_178 : decode cX9_shift 178 = .ok (.iload_n 2, 1) := by decide +kernel
theorem dX9_shift_179 : decode cX9_shift 179 = .ok (.aload_n 0, 1) := by decide +kernel
theorem dX9_shift_180 : decode cX9_shift 180 = .ok (.getfield 69, 3) := by decide +kernel
theorem dX9_shift_183 : decode cX9_shift 183 = .ok (.iload_n 2, 1) := by decide +kernel
theorem dX9_shift_184 : decode cX9_shift 184 = .ok (.iconst 1, 1) := by decide +kernel
theorem dX9_shift_185 : decode cX9_shift 185 = .ok (.iadd, 1) := by decide +kernel
theorem dX9_shift_186 : decode cX9_shift 186 = .ok (.baload, 1) := by decide +kernel
theorem dX9_shift_187 : decode cX9_shift 187 = .ok (.bastore, 1) := by decide +kernel
theorem dX9_shift_188 : decode cX9_shift 188 = .ok (.iinc 2 1, 3) := by decide +kernel
theorem dX9_shift_191 : decode cX9_shift 191 = .ok (.goto (-179), 3) := by decide +kernel
theorem dX9_shift_194 : decode cX9_shift 194 = .ok (.bipush 6, 2) := by decide +kernel
theorem dX9_shift_196 : decode cX9_shift 196 = .ok (.iload_n 1, 1) := by decide +kernel
theorem dX9_shift_197 : decode cX9_shift 197 = .ok (.imul, 1) := by decide +kernel
theorem dX9_shift_198 : decode cX9_shift 198 = .ok (.istore_n 2, 1) := by decide +kernel
theorem dX9_shift_199 : decode cX9_shift 199 = .ok (.iload_n 2, 1) := by decide +kernel
theorem dX9_shift_200 : decode cX9_shift 200 = .ok (.bipush 6, 2) := by decide +kernel
theorem dX9_shift_202 : decode cX9_shift 202 = .ok (.aload_n 0, 1) := by decide +kernel
theorem dX9_shift_203 : decode cX9_shift 203 = .ok (.getfield 143, 3) := by decide +kernel
theorem dX9_shift_206 : decode cX9_shift 206 = .ok (.imul, 1) := by decide +kernel
theorem dX9_shift_207 : decode cX9_shift 207 = .ok (.if_icmp .ge 24, 3) := by decide +kernel
theorem dX9_shift_210 : decode cX9_shift 210 = .ok (.aload_n 0, 1) := by decide +kernel
theorem dX9_shift_211 : decode cX9_shift 211 = .ok (.getfield 73, 3) := by decide +kernel
theorem dX9_shift_214 : decode cX9_shift 214 = .ok (.iload_n 2, 1) := by decide +kernel
theorem dX9_shift_215 : decode cX9_shift 215 = .ok (.aload_n 0, 1) := by decide +kernel
theorem dX9_shift_216 : decode cX9_shift 216 = .ok (.getfield 73, 3) := by decide +kernel
theorem dX9_shift_219 : decode cX9_shift 219 = .ok (.iload_n 2, 1) := by decide +kernel
theorem dX9_shift_220 : decode cX9_shift 220 = .ok (.bipush 6, 2) := by decide +kernel
theorem dX9_shift_222 : decode cX9_shift 222 = .ok (.iadd, 1) := by decide +kernel
theorem dX9_shift_223 : decode cX9_shift 223 = .ok (.iaload, 1) := by decide +kernel
theorem dX9_shift_224 : decode cX9_shift 224 = .ok (.iastore, 1) := by decide +kernel
theorem dX9_shift_225 : decode cX9_shift 225 = .ok (.iinc 2 1, 3) := by decide +kernel
theorem dX9_shift_228 : decode cX9_shift 228 = .ok (.goto (-29), 3) := by decide +kernel
theorem dX9_shift_231 : decode cX9_shift 231 = .ok (.return_, 1) := by decide +kernel
theorem dX9_join_0 : decode cX9_join 0 = .ok (.iconst 0, 1) := by decide +kernel
theorem dX9_join_1 : decode cX9_join 1 = .ok (.istore_n 3, 1) := by decide +kernel
theorem dX9_join_2 : decode cX9_join 2 = .ok (.iload_n 3, 1) := by decide +kernel
theorem dX9_join_3 : decode cX9_join 3 = .ok (.bipush 6, 2) := by decide +kernel
theorem dX9_join_5 : decode cX9_join 5 = .ok (.if_icmp .ge 80, 3) := by decide +kernel
theorem dX9_join_8 : decode cX9_join 8 = .ok (.aload_n 0, 1) := by decide +kernel
theorem dX9_join_9 : decode cX9_join 9 = .ok (.getfield 13, 3) := by decide +kernel
theorem dX9_join_12 : decode cX9_join 12 = .ok (.bipush 6, 2) := by decide +kernel
theorem dX9_join_14 : decode cX9_join 14 = .ok (.iload_n 1, 1) := by decide +kernel
theorem dX9_join_15 : decode cX9_join 15 = .ok (.imul, 1) := by decide +kernel
theorem dX9_join_16 : decode cX9_join 16 = .ok (.iload_n 3, 1) := by decide +kernel
theorem dX9_join_17 : decode cX9_join 17 = .ok (.iadd, 1) := by decide +kernel
theorem dX9_join_18 : decode cX9_join 18 = .ok (.iaload, 1) := by decide +kernel
theorem dX9_join_19 : decode cX9_join 19 = .ok (.istore 4, 2) := by decide +kernel
theorem dX9_join_21 : decode cX9_join 21 = .ok (.aload_n 0, 1) := by decide +kernel
theorem dX9_join_22 : decode cX9_join 22 = .ok (.getfield 73, 3) := by decide +kernel
theorem dX9_join_25 : decode cX9_join 25 = .ok (.bipush 6, 2) := by decide +kernel
theorem dX9_join_27 : decode cX9_join 27 = .ok (.iload_n 2, 1) := by decide +kernel
theorem dX9_join_28 : decode cX9_join 28 = .ok (.imul, 1) := by decide +kernel
theorem dX9_join_29 : decode cX9_join 29 = .ok (.iload_n 3, 1) := by decide +kernel
theorem dX9_join_30 : decode cX9_join 30 = .ok (.iadd, 1) := by decide +kernel
theorem dX9_join_31 : decode cX9_join 31 = .ok (.iaload, 1) := by decide +kernel
theorem dX9_join_32 : decode cX9_join 32 = .ok (.istore 5, 2) := by decide +kernel
theorem dX9_join_34 : decode cX9_join 34 = .ok (.iload 4, 2) := by decide +kernel
theorem dX9_join_36 : decode cX9_join 36 = .ok (.iconst (-1), 1) := by decide +kernel
theorem dX9_join_37 : decode cX9_join 37 = .ok (.if_icmp .eq 9, 3) := by decide +kernel
theorem dX9_join_40 : decode cX9_join 40 = .ok (.iload 5, 2) := by decide +kernel
theorem dX9_join_42 : decode cX9_join 42 = .ok (.iconst (-1), 1) := by decide +kernel
theorem dX9_join_43 : decode cX9_join 43 = .ok (.if_icmp .ne 18, 3) := by decide +kernel
theorem dX9_join_46 : decode cX9_join 46 = .ok (.aload_n 0, 1) := by decide +kernel
theorem dX9_join_47 : decode cX9_join 47 = .ok (.getfield 13, 3) := by decide +kernel
theorem dX9_join_50 : decode cX9_join 50 = .ok (.bipush 6, 2) := by decide +kernel
theorem dX9_join_52 : decode cX9_join 52 = .ok (.iload_n 1, 1) := by decide +kernel
theorem dX9_join_53 : decode cX9_join 53 = .ok (.imul, 1) := by decide +kernel
theorem dX9_join_54 : decode cX9_join 54 = .ok (.iload_n 3, 1) := by decide +kernel
theorem dX9_join_55 : decode cX9_join 55 = .ok (.iadd, 1) := by decide +kernel
theorem dX9_join_56 : decode cX9_join 56 = .ok (.iconst (-1), 1) := by decide +kernel
theorem dX9_join_57 : decode cX9_join 57 = .ok (.iastore, 1) := by decide +kernel
theorem dX9_join_58 : decode cX9_join 58 = .ok (.goto 21, 3) := by decide +kernel
theorem dX9_join_61 : decode cX9_join 61 = .ok (.iload 4, 2) := by decide +kernel
theorem dX9_join_63 : decode cX9_join 63 = .ok (.ifCond .ne 16, 3) := by decide +kernel
theorem dX9_join_66 : decode cX9_join 66 = .ok (.aload_n 0, 1) := by decide +kernel
theorem dX9_join_67 : decode cX9_join 67 = .ok (.getfield 13, 3) := by decide +kernel
theorem dX9_join_70 : decode cX9_join 70 = .ok (.bipush 6, 2) := by decide +kernel
theorem dX9_join_72 : decode cX9_join 72 = .ok (.iload_n 1, 1) := by decide +kernel
theorem dX9_join_73 : decode cX9_join 73 = .ok (.imul, 1) := by decide +kernel
theorem dX9_join_74 : decode cX9_join 74 = .ok (.iload_n 3, 1) := by decide +kernel
theorem dX9_join_75 : decode cX9_join 75 = .ok (.iadd, 1) := by decide +kernel
theorem dX9_join_76 : decode cX9_join 76 = .ok (.iload 5, 2) := by decide +kernel
theorem dX9_join_78 : decode cX9_join 78 = .ok (.iastore, 1) := by decide +kernel
theorem dX9_join_79 : decode cX9_join 79 = .ok (.iinc 3 1, 3) := by decide +kernel
theorem dX9_join_82 : decode cX9_join 82 = .ok (.goto (-80), 3) := by decide +kernel
theorem dX9_join_85 : decode cX9_join 85 = .ok (.return_, 1) := by decide +kernel
theorem dX9_mapHas_0 : decode cX9_mapHas 0 = .ok (.iload_n 2, 1) := by decide +kernel
theorem dX9_mapHas_1 : decode cX9_mapHas 1 = .ok (.bipush 6, 2) := by decide +kernel
theorem dX9_mapHas_3 : decode cX9_mapHas 3 = .ok (.if_icmp .ge 20, 3) := by decide +kernel
theorem dX9_mapHas_6 : decode cX9_mapHas 6 = .ok (.aload_n 0, 1) := by decide +kernel
theorem dX9_mapHas_7 : decode cX9_mapHas 7 = .ok (.getfield 13, 3) := by decide +kernel
theorem dX9_mapHas_10 : decode cX9_mapHas 10 = .ok (.bipush 6, 2) := by decide +kernel
theorem dX9_mapHas_12 : decode cX9_mapHas 12 = .ok (.bipush 7, 2) := by decide +kernel
theorem dX9_mapHas_14 : decode cX9_mapHas 14 = .ok (.iload_n 1, 1) := by decide +kernel
theorem dX9_mapHas_15 : decode cX9_mapHas 15 = .ok (.iadd, 1) := by decide +kernel
theorem dX9_mapHas_16 : decode cX9_mapHas 16 = .ok (.imul, 1) := by decide +kernel
theorem dX9_mapHas_17 : decode cX9_mapHas 17 = .ok (.iload_n 2, 1) := by decide +kernel
theorem dX9_mapHas_18 : decode cX9_mapHas 18 = .ok (.iadd, 1) := by decide +kernel
theorem dX9_mapHas_19 : decode cX9_mapHas 19 = .ok (.iaload, 1) := by decide +kernel
theorem dX9_mapHas_20 : decode cX9_mapHas 20 = .ok (.goto 4, 3) := by decide +kernel
theorem dX9_mapHas_23 : decode cX9_mapHas 23 = .ok (.iconst 0, 1) := by decide +kernel
theorem dX9_mapHas_24 : decode cX9_mapHas 24 = .ok (.ireturn, 1) := by decide +kernel
theorem dX9_ones_0 : decode cX9_ones 0 = .ok (.iconst 0, 1) := by decide +kernel
theorem dX9_ones_1 : decode cX9_ones 1 = .ok (.istore_n 2, 1) := by decide +kernel
theorem dX9_ones_2 : decode cX9_ones 2 = .ok (.iload_n 1, 1) := by decide +kernel
theorem dX9_ones_3 : decode cX9_ones 3 = .ok (.istore_n 3, 1) := by decide +kernel
theorem dX9_ones_4 : decode cX9_ones 4 = .ok (.iload_n 3, 1) := by decide +kernel
theorem dX9_ones_5 : decode cX9_ones 5 = .ok (.ifCond .eq 16, 3) := by decide +kernel
theorem dX9_ones_8 : decode cX9_ones 8 = .ok (.iload_n 2, 1) := by decide +kernel
theorem dX9_ones_9 : decode cX9_ones 9 = .ok (.iconst 1, 1) := by decide +kernel
theorem dX9_ones_10 : decode cX9_ones 10 = .ok (.iadd, 1) := by decide +kernel
theorem dX9_ones_11 : decode cX9_ones 11 = .ok (.istore_n 2, 1) := by decide +kernel
theorem dX9_ones_12 : decode cX9_ones 12 = .ok (.iload_n 3, 1) := by decide +kernel
theorem dX9_ones_13 : decode cX9_ones 13 = .ok (.iload_n 3, 1) := by decide +kernel
theorem dX9_ones_14 : decode cX9_ones 14 = .ok (.iconst 1, 1) := by decide +kernel
theorem dX9_ones_15 : decode cX9_ones 15 = .ok (.isub, 1) := by decide +kernel
theorem dX9_ones_16 : decode cX9_ones 16 = .ok (.iand, 1) := by decide +kernel
theorem dX9_ones_17 : decode cX9_ones 17 = .ok (.istore_n 3, 1) := by decide +kernel
theorem dX9_ones_18 : decode cX9_ones 18 = .ok (.goto (-14), 3) := by decide +kernel
theorem dX9_ones_21 : decode cX9_ones 21 = .ok (.iload_n 2, 1) := by decide +kernel
theorem dX9_ones_22 : decode cX9_ones 22 = .ok (.ireturn, 1) := by decide +kernel
theorem dX9_isMost_0 : decode cX9_isMost 0 = .ok (.iconst 2, 1) := by decide +kernel
theorem dX9_isMost_1 : decode cX9_isMost 1 = .ok (.aload_n 0, 1) := by decide +kernel
theorem dX9_isMost_2 : decode cX9_isMost 2 = .ok (.iload_n 1, 1) := by decide +kernel
theorem dX9_isMost_3 : decode cX9_isMost 3 = .ok (.iload_n 2, 1) := by decide +kernel
theorem dX9_isMost_4 : decode cX9_isMost 4 = .ok (.iand, 1) := by decide +kernel
theorem dX9_isMost_5 : decode cX9_isMost 5 = .ok (.invokevirtual 161, 3) := by decide +kernel
theorem dX9_isMost_8 : decode cX9_isMost 8 = .ok (.imul, 1) := by decide +kernel
theorem dX9_isMost_9 : decode cX9_isMost 9 = .ok (.aload_n 0, 1) := by decide +kernel
theorem dX9_isMost_10 : decode cX9_isMost 10 = .ok (.iload_n 1, 1) := by decide +kernel
theorem dX9_isMost_11 : decode cX9_isMost 11 = .ok (.invokevirtual 161, 3) := by decide +kernel
theorem dX9_isMost_14 : decode cX9_isMost 14 = .ok (.if_icmp .le 7, 3) := by decide +kernel
theorem dX9_isMost_17 : decode cX9_isMost 17 = .ok (.iconst 1, 1) := by decide +kernel
theorem dX9_isMost_18 : decode cX9_isMost 18 = .ok (.goto 4, 3) := by decide +kernel
theorem dX9_isMost_21 : decode cX9_isMost 21 = .ok (.iconst 0, 1) := by decide +kernel
theorem dX9_isMost_22 : decode cX9_isMost 22 = .ok (.ireturn, 1) := by decide +kernel
theorem dX9_isReadWrite_0 : decode cX9_isReadWrite 0 = .ok (.aload_n 0, 1) := by decide +kernel
theorem dX9_isReadWrite_1 : decode cX9_isReadWrite 1 = .ok (.getfield 76, 3) := by decide +kernel
theorem dX9_isReadWrite_4 : decode cX9_isReadWrite 4 = .ok (.iload_n 1, 1) := by decide +kernel
theorem dX9_isReadWrite_5 : decode cX9_isReadWrite 5 = .ok (.iaload, 1) := by decide +kernel
theorem dX9_isReadWrite_6 : decode cX9_isReadWrite 6 = .ok (.ifCond .eq 13, 3) := by decide +kernel
theorem dX9_isReadWrite_9 : decode cX9_isReadWrite 9 = .ok (.aload_n 0, 1) := by decide +kernel
theorem dX9_isReadWrite_10 : decode cX9_isReadWrite 10 = .ok (.getfield 76, 3) := by decide +kernel
theorem dX9_isReadWrite_13 : decode cX9_isReadWrite 13 = .ok (.iload_n 1, 1) := by decide +kernel
theorem dX9_isReadWrite_14 : decode cX9_isReadWrite 14 = .ok (.iaload, 1) := by decide +kernel
theorem dX9_isReadWrite_15 : decode cX9_isReadWrite 15 = .ok (.iconst 1, 1) := by decide +kernel
theorem dX9_isReadWrite_16 : decode cX9_isReadWrite 16 = .ok (.if_icmp .ne 7, 3) := by decide +kernel
theorem dX9_isReadWrite_19 : decode cX9_isReadWrite 19 = .ok (.iconst 1, 1) := by decide +kernel
theorem dX9_isReadWrite_20 : decode cX9_isReadWrite 20 = .ok (.goto 4, 3) := by decide +kernel
theorem dX9_isReadWrite_23 : decode cX9_isReadWrite 23 = .ok (.iconst 0, 1) := by decide +kernel
theorem dX9_isReadWrite_24 : decode cX9_isReadWrite 24 = .ok (.ireturn, 1) := by decide +kernel
theorem dX9_wanted_0 : decode cX9_wanted 0 = .ok (.aload_n 0, 1) := by decide +kernel
theorem dX9_wanted_1 : decode cX9_wanted 1 = .ok (.getfield 103, 3) := by decide +kernel
theorem dX9_wanted_4 : decode cX9_wanted 4 = .ok (.iload_n 1, 1) := by decide +kernel
theorem dX9_wanted_5 : decode cX9_wanted 5 = .ok (.iaload, 1) := by decide +kernel
theorem dX9_wanted_6 : decode cX9_wanted 6 = .ok (.istore_n 2, 1) := by decide +kernel
theorem dX9_wanted_7 : decode cX9_wanted 7 = .ok (.aload_n 0, 1) := by decide +kernel
theorem dX9_wanted_8 : decode cX9_wanted 8 = .ok (.iload_n 2, 1) := by decide +kernel
theorem dX9_wanted_9 : decode cX9_wanted 9 = .ok (.invokevirtual 165, 3) := by decide +kernel
theorem dX9_wanted_12 : decode cX9_wanted 12 = .ok (.ifCond .eq 43, 3) := by decide +kernel
theorem dX9_wanted_15 : decode cX9_wanted 15 = .ok (.iconst 0, 1) := by decide +kernel
theorem dX9_wanted_16 : decode cX9_wanted 16 = .ok (.istore_n 3, 1) := by decide +kernel
theorem dX9_wanted_17 : decode cX9_wanted 17 = .ok (.iconst 0, 1) := by decide +kernel
theorem dX9_wanted_18 : decode cX9_wanted 18 = .ok (.istore 4, 2) := by decide +kernel
theorem dX9_wanted_20 : decode cX9_wanted 20 = .ok (.iload 4, 2) := by decide +kernel
theorem dX9_wanted_22 : decode cX9_wanted 22 = .ok (.bipush 6, 2) := by decide +kernel
theorem dX9_wanted_24 : decode cX9_wanted 24 = .ok (.if_icmp .ge 29, 3) := by decide +kernel
theorem dX9_wanted_27 : decode cX9_wanted 27 = .ok (.aload_n 0, 1) := by decide +kernel
theorem dX9_wanted_28 : decode cX9_wanted 28 = .ok (.iload_n 1, 1) := by decide +kernel
theorem dX9_wanted_29 : decode cX9_wanted 29 = .ok (.iload 4, 2) := by decide +kernel
theorem dX9_wanted_31 : decode cX9_wanted 31 = .ok (.invokevirtual 169, 3) := by decide +kernel
theorem dX9_wanted_34 : decode cX9_wanted 34 = .ok (.ifCond .le 13, 3) := by decide +kernel
theorem dX9_wanted_37 : decode cX9_wanted 37 = .ok (.iload_n 3, 1) := by decide +kernel
theorem dX9_wanted_38 : decode cX9_wanted 38 = .ok (.aload_n 0, 1) := by decide +kernel
theorem dX9_wanted_39 : decode cX9_wanted 39 = .ok (.iload_n 1, 1) := by decide +kernel
theorem dX9_wanted_40 : decode cX9_wanted 40 = .ok (.iload 4, 2) := by decide +kernel
theorem dX9_wanted_42 : decode cX9_wanted 42 = .ok (.invokevirtual 169, 3) := by decide +kernel
theorem dX9_wanted_45 : decode cX9_wanted 45 = .ok (.ior, 1) := by decide +kernel
theorem dX9_wanted_46 : decode cX9_wanted 46 = .ok (.istore_n 3, 1) := by decide +kernel
theorem dX9_wanted_47 : decode cX9_wanted 47 = .ok (.iinc 4 1, 3) := by decide +kernel
theorem dX9_wanted_50 : decode cX9_wanted 50 = .ok (.goto (-30), 3) := by decide +kernel
theorem dX9_wanted_53 : decode cX9_wanted 53 = .ok (.iload_n 3, 1) := by decide +kernel
theorem dX9_wanted_54 : decode cX9_wanted 54 = .ok (.ireturn, 1) := by decide +kernel
theorem dX9_wanted_55 : decode cX9_wanted 55 = .ok (.aload_n 0, 1) := by decide +kernel
theorem dX9_wanted_56 : decode cX9_wanted 56 = .ok (.getfield 76, 3) := by decide +kernel
theorem dX9_wanted_59 : decode cX9_wanted 59 = .ok (.iload_n 2, 1) := by decide +kernel
theorem dX9_wanted_60 : decode cX9_wanted 60 = .ok (.iaload, 1) := by decide +kernel
theorem dX9_wanted_61 : decode cX9_wanted 61 = .ok (.iconst 3, 1) := by decide +kernel
theorem dX9_wanted_62 : decode cX9_wanted 62 = .ok (.if_icmp .ne 20, 3) := by decide +kernel
theorem dX9_wanted_65 : decode cX9_wanted 65 = .ok (.aload_n 0, 1) := by decide +kernel
theorem dX9_wanted_66 : decode cX9_wanted 66 = .ok (.getfield 115, 3) := by decide +kernel
theorem dX9_wanted_69 : decode cX9_wanted 69 = .ok (.iload_n 1, 1) := by decide +kernel
theorem dX9_wanted_70 : decode cX9_wanted 70 = .ok (.iaload, 1) := by decide +kernel
theorem dX9_wanted_71 : decode cX9_wanted 71 = .ok (.iconst 2, 1) := by decide +kernel
theorem dX9_wanted_72 : decode cX9_wanted 72 = .ok (.if_icmp .ne 10, 3) := by decide +kernel
theorem dX9_wanted_75 : decode cX9_wanted 75 = .ok (.aload_n 0, 1) := by decide +kernel
theorem dX9_wanted_76 : decode cX9_wanted 76 = .ok (.getfield 124, 3) := by decide +kernel
theorem dX9_wanted_79 : decode cX9_wanted 79 = .ok (.iload_n 1, 1) := by decide +kernel
theorem dX9_wanted_80 : decode cX9_wanted 80 = .ok (.iaload, 1) := by decide +kernel
theorem dX9_wanted_81 : decode cX9_wanted 81 = .ok (.ireturn, 1) := by decide +kernel
theorem dX9_wanted_82 : decode cX9_wanted 82 = .ok (.aload_n 0, 1) := by decide +kernel
theorem dX9_wanted_83 : decode cX9_wanted 83 = .ok (.iload_n 1, 1) := by decide +kernel
theorem dX9_wanted_84 : decode cX9_wanted 84 = .ok (.aload_n 0, 1) := by decide +kernel
theorem dX9_wanted_85 : decode cX9_wanted 85 = .ok (.getfield 121, 3) := by decide +kernel
theorem dX9_wanted_88 : decode cX9_wanted 88 = .ok (.iload_n 1, 1) := by decide +kernel
theorem dX9_wanted_89 : decode cX9_wanted 89 = .ok (.iaload, 1) := by decide +kernel
theorem dX9_wanted_90 : decode cX9_wanted 90 = .ok (.invokevirtual 169, 3) := by decide +kernel
theorem dX9_wanted_93 : decode cX9_wanted 93 = .ok (.istore_n 3, 1) := by decide +kernel
theorem dX9_wanted_94 : decode cX9_wanted 94 = .ok (.iload_n 3, 1) := by decide +kernel
theorem dX9_wanted_95 : decode cX9_wanted 95 = .ok (.ifCond .le 7, 3) := by decide +kernel
theorem dX9_wanted_98 : decode cX9_wanted 98 = .ok (.iload_n 3, 1) := by decide +kernel
theorem dX9_wanted_99 : decode cX9_wanted 99 = .ok (.goto 4, 3) := by decide +kernel
theorem dX9_wanted_102 : decode cX9_wanted 102 = .ok (.iconst 0, 1) := by decide +kernel
theorem dX9_wanted_103 : decode cX9_wanted 103 = .ok (.ireturn, 1) := by decide +kernel
theorem dX9_isFull_0 : decode cX9_isFull 0 = .ok (.aload_n 0, 1) := by decide +kernel
theorem dX9_isFull_1 : decode cX9_isFull 1 = .ok (.getfield 103, 3) := by decide +kernel
theorem dX9_isFull_4 : decode cX9_isFull 4 = .ok (.iload_n 1, 1) := by decide +kernel
theorem dX9_isFull_5 : decode cX9_isFull 5 = .ok (.iaload, 1) := by decide +kernel
theorem dX9_isFull_6 : decode cX9_isFull 6 = .ok (.istore_n 2, 1) := by decide +kernel
theorem dX9_isFull_7 : decode cX9_isFull 7 = .ok (.aload_n 0, 1) := by decide +kernel
theorem dX9_isFull_8 : decode cX9_isFull 8 = .ok (.iload_n 2, 1) := by decide +kernel
theorem dX9_isFull_9 : decode cX9_isFull 9 = .ok (.invokevirtual 165, 3) := by decide +kernel
theorem dX9_isFull_12 : decode cX9_isFull 12 = .ok (.ifCond .ne 19, 3) := by decide +kernel
theorem dX9_isFull_15 : decode cX9_isFull 15 = .ok (.aload_n 0, 1) := by decide +kernel
theorem dX9_isFull_16 : decode cX9_isFull 16 = .ok (.aload_n 0, 1) := by decide +kernel
theorem dX9_isFull_17 : decode cX9_isFull 17 = .ok (.iload_n 1, 1) := by decide +kernel
theorem dX9_isFull_18 : decode cX9_isFull 18 = .ok (.invokevirtual 173, 3) := by decide +kernel
theorem dX9_isFull_21 : decode cX9_isFull 21 = .ok (.aload_n 0, 1) := by decide +kernel
theorem dX9_isFull_22 : decode cX9_isFull 22 = .ok (.getfield 112, 3) := by decide +kernel
theorem dX9_isFull_25 : decode cX9_isFull 25 = .ok (.iload_n 1, 1) := by decide +kernel
theorem dX9_isFull_26 : decode cX9_isFull 26 = .ok (.iaload, 1) := by decide +kernel
theorem dX9_isFull_27 : decode cX9_isFull 27 = .ok (.invokevirtual 176, 3) := by decide +kernel
theorem dX9_isFull_30 : decode cX9_isFull 30 = .ok (.ireturn, 1) := by decide +kernel
theorem dX9_isFull_31 : decode cX9_isFull 31 = .ok (.iconst 0, 1) := by decide +kernel
theorem dX9_isFull_32 : decode cX9_isFull 32 = .ok (.istore_n 3, 1) := by decide +kernel
theorem dX9_isFull_33 : decode cX9_isFull 33 = .ok (.iload_n 3, 1) := by decide +kernel
theorem dX9_isFull_34 : decode cX9_isFull 34 = .ok (.bipush 6, 2) := by decide +kernel
theorem dX9_isFull_36 : decode cX9_isFull 36 = .ok (.if_icmp .ge 39, 3) := by decide +kernel
theorem dX9_isFull_39 : decode cX9_isFull 39 = .ok (.aload_n 0, 1) := by decide +kernel
theorem dX9_isFull_40 : decode cX9_isFull 40 = .ok (.iload_n 1, 1) := by decide +kernel
theorem dX9_isFull_41 : decode cX9_isFull 41 = .ok (.iload_n 3, 1) := by decide +kernel
theorem dX9_isFull_42 : decode cX9_isFull 42 = .ok (.invokevirtual 169, 3) := by decide +kernel
theorem dX9_isFull_45 : decode cX9_isFull 45 = .ok (.ifCond .le 24, 3) := by decide +kernel
theorem dX9_isFull_48 : decode cX9_isFull 48 = .ok (.aload_n 0, 1) := by decide +kernel
theorem dX9_isFull_49 : decode cX9_isFull 49 = .ok (.aload_n 0, 1) := by decide +kernel
theorem dX9_isFull_50 : decode cX9_isFull 50 = .ok (.iload_n 1, 1) := by decide +kernel
theorem dX9_isFull_51 : decode cX9_isFull 51 = .ok (.iload_n 3, 1) := by decide +kernel
theorem dX9_isFull_52 : decode cX9_isFull 52 = .ok (.invokevirtual 169, 3) := by decide +kernel
theorem dX9_isFull_55 : decode cX9_isFull 55 = .ok (.aload_n 0, 1) := by decide +kernel
theorem dX9_isFull_56 : decode cX9_isFull 56 = .ok (.getfield 112, 3) := by decide +kernel
theorem dX9_isFull_59 : decode cX9_isFull 59 = .ok (.iload_n 1, 1) := by decide +kernel
theorem dX9_isFull_60 : decode cX9_isFull 60 = .ok (.iaload, 1) := by decide +kernel
theorem dX9_isFull_61 : decode cX9_isFull 61 = .ok (.invokevirtual 176, 3) := by decide +kernel
theorem dX9_isFull_64 : decode cX9_isFull 64 = .ok (.ifCond .ne 5, 3) := by decide +kernel
theorem dX9_isFull_67 : decode cX9_isFull 67 = .ok (.iconst 0, 1) := by decide +kernel
theorem dX9_isFull_68 : decode cX9_isFull 68 = .ok (.ireturn, 1) := by decide +kernel
theorem dX9_isFull_69 : decode cX9_isFull 69 = .ok (.iinc 3 1, 3) := by decide +kernel
theorem dX9_isFull_72 : decode cX9_isFull 72 = .ok (.goto (-39), 3) := by decide +kernel
theorem dX9_isFull_75 : decode cX9_isFull 75 = .ok (.iconst 1, 1) := by decide +kernel
theorem dX9_isFull_76 : decode cX9_isFull 76 = .ok (.ireturn, 1) := by decide +kernel
theorem dX9_asksBy_0 : decode cX9_asksBy 0 = .ok (.aload_n 0, 1) := by decide +kernel
theorem dX9_asksBy_1 : decode cX9_asksBy 1 = .ok (.iload_n 1, 1) := by decide +kernel
theorem dX9_asksBy_2 : decode cX9_asksBy 2 = .ok (.invokevirtual 165, 3) := by decide +kernel
theorem dX9_asksBy_5 : decode cX9_asksBy 5 = .ok (.ifCond .eq 14, 3) := by decide +kernel
theorem dX9_asksBy_8 : decode cX9_asksBy 8 = .ok (.iload_n 2, 1) := by decide +kernel
theorem dX9_asksBy_9 : decode cX9_asksBy 9 = .ok (.iconst 1, 1) := by decide +kernel
theorem dX9_asksBy_10 : decode cX9_asksBy 10 = .ok (.if_icmp .ne 7, 3) := by decide +kernel
theorem dX9_asksBy_13 : decode cX9_asksBy 13 = .ok (.iconst 0, 1) := by decide +kernel
theorem dX9_asksBy_14 : decode cX9_asksBy 14 = .ok (.goto 4, 3) := by decide +kernel
theorem dX9_asksBy_17 : decode cX9_asksBy 17 = .ok (.iconst 1, 1) := by decide +kernel
theorem dX9_asksBy_18 : decode cX9_asksBy 18 = .ok (.ireturn, 1) := by decide +kernel
theorem dX9_asksBy_19 : decode cX9_asksBy 19 = .ok (.aload_n 0, 1) := by decide +kernel
theorem dX9_asksBy_20 : decode cX9_asksBy 20 = .ok (.getfield 76, 3) := by decide +kernel
theorem dX9_asksBy_23 : decode cX9_asksBy 23 = .ok (.iload_n 1, 1) := by decide +kernel
theorem dX9_asksBy_24 : decode cX9_asksBy 24 = .ok (.iaload, 1) := by decide +kernel
theorem dX9_asksBy_25 : decode cX9_asksBy 25 = .ok (.iconst 2, 1) := by decide +kernel
theorem dX9_asksBy_26 : decode cX9_asksBy 26 = .ok (.if_icmp .ne 14, 3) := by decide +kernel
theorem dX9_asksBy_29 : decode cX9_asksBy 29 = .ok (.iload_n 2, 1) := by decide +kernel
theorem dX9_asksBy_30 : decode cX9_asksBy 30 = .ok (.iconst 1, 1) := by decide +kernel
theorem dX9_asksBy_31 : decode cX9_asksBy 31 = .ok (.if_icmp .ne 7, 3) := by decide +kernel
theorem dX9_asksBy_34 : decode cX9_asksBy 34 = .ok (.iconst 2, 1) := by decide +kernel
theorem dX9_asksBy_35 : decode cX9_asksBy 35 = .ok (.goto 4, 3) := by decide +kernel
theorem dX9_asksBy_38 : decode cX9_asksBy 38 = .ok (.iconst 3, 1) := by decide +kernel
theorem dX9_asksBy_39 : decode cX9_asksBy 39 = .ok (.ireturn, 1) := by decide +kernel
theorem dX9_asksBy_40 : decode cX9_asksBy 40 = .ok (.iload_n 2, 1) := by decide +kernel
theorem dX9_asksBy_41 : decode cX9_asksBy 41 = .ok (.iconst 1, 1) := by decide +kernel
theorem dX9_asksBy_42 : decode cX9_asksBy 42 = .ok (.if_icmp .ne 7, 3) := by decide +kernel
theorem dX9_asksBy_45 : decode cX9_asksBy 45 = .ok (.iconst 4, 1) := by decide +kernel
theorem dX9_asksBy_46 : decode cX9_asksBy 46 = .ok (.goto 4, 3) := by decide +kernel
theorem dX9_asksBy_49 : decode cX9_asksBy 49 = .ok (.iconst 5, 1) := by decide +kernel
theorem dX9_asksBy_50 : decode cX9_asksBy 50 = .ok (.ireturn, 1) := by decide +kernel
theorem dX9_asksMore_0 : decode cX9_asksMore 0 = .ok (.aload_n 0, 1) := by decide +kernel
theorem dX9_asksMore_1 : decode cX9_asksMore 1 = .ok (.iload_n 1, 1) := by decide +kernel
theorem dX9_asksMore_2 : decode cX9_asksMore 2 = .ok (.invokevirtual 173, 3) := by decide +kernel
theorem dX9_asksMore_5 : decode cX9_asksMore 5 = .ok (.aload_n 0, 1) := by decide +kernel
theorem dX9_asksMore_6 : decode cX9_asksMore 6 = .ok (.getfield 109, 3) := by decide +kernel
theorem dX9_asksMore_9 : decode cX9_asksMore 9 = .ok (.iload_n 1, 1) := by decide +kernel
theorem dX9_asksMore_10 : decode cX9_asksMore 10 = .ok (.iaload, 1) := by decide +kernel
theorem dX9_asksMore_11 : decode cX9_asksMore 11 = .ok (.iconst (-1), 1) := by decide +kernel
theorem dX9_asksMore_12 : decode cX9_asksMore 12 = .ok (.ixor, 1) := by decide +kernel
theorem dX9_asksMore_13 : decode cX9_asksMore 13 = .ok (.iand, 1) := by decide +kernel
theorem dX9_asksMore_14 : decode cX9_asksMore 14 = .ok (.istore_n 2, 1) := by decide +kernel
theorem dX9_asksMore_15 : decode cX9_asksMore 15 = .ok (.aload_n 0, 1) := by decide +kernel
theorem dX9_asksMore_16 : decode cX9_asksMore 16 = .ok (.getfield 103, 3) := by decide +kernel
theorem dX9_asksMore_19 : decode cX9_asksMore 19 = .ok (.iload_n 1, 1) := by decide +kernel
theorem dX9_asksMore_20 : decode cX9_asksMore 20 = .ok (.iaload, 1) := by decide +kernel
theorem dX9_asksMore_21 : decode cX9_asksMore 21 = .ok (.istore_n 3, 1) := by decide +kernel
theorem dX9_asksMore_22 : decode cX9_asksMore 22 = .ok (.iconst 0, 1) := by decide +kernel
theorem dX9_asksMore_23 : decode cX9_asksMore 23 = .ok (.istore 4, 2) := by decide +kernel
theorem dX9_asksMore_25 : decode cX9_asksMore 25 = .ok (.iload 4, 2) := by decide +kernel
theorem dX9_asksMore_27 : decode cX9_asksMore 27 = .ok (.bipush 7, 2) := by decide +kernel
theorem dX9_asksMore_29 : decode cX9_asksMore 29 = .ok (.if_icmp .ge 295, 3) := by decide +kernel
theorem dX9_asksMore_32 : decode cX9_asksMore 32 = .ok (.iload_n 2, 1) := by decide +kernel
theorem dX9_asksMore_33 : decode cX9_asksMore 33 = .ok (.iload 4, 2) := by decide +kernel
theorem dX9_asksMore_35 : decode cX9_asksMore 35 = .ok (.ishr, 1) := by decide +kernel
theorem dX9_asksMore_36 : decode cX9_asksMore 36 = .ok (.iconst 1, 1) := by decide +kernel
theorem dX9_asksMore_37 : decode cX9_asksMore 37 = .ok (.iand, 1) := by decide +kernel
theorem dX9_asksMore_38 : decode cX9_asksMore 38 = .ok (.ifCond .ne 6, 3) := by decide +kernel
theorem dX9_asksMore_41 : decode cX9_asksMore 41 = .ok (.goto 277, 3) := by decide +kernel
theorem dX9_asksMore_44 : decode cX9_asksMore 44 = .ok (.aload_n 0, 1) := by decide +kernel
theorem dX9_asksMore_45 : decode cX9_asksMore 45 = .ok (.aload_n 0, 1) := by decide +kernel
theorem dX9_asksMore_46 : decode cX9_asksMore 46 = .ok (.iload_n 3, 1) := by decide +kernel
theorem dX9_asksMore_47 : decode cX9_asksMore 47 = .ok (.aload_n 0, 1) := by decide +kernel
theorem dX9_asksMore_48 : decode cX9_asksMore 48 = .ok (.getfield 115, 3) := by decide +kernel
theorem dX9_asksMore_51 : decode cX9_asksMore 51 = .ok (.iload_n 1, 1) := by decide +kernel
theorem dX9_asksMore_52 : decode cX9_asksMore 52 = .ok (.iaload, 1) := by decide +kernel
theorem dX9_asksMore_53 : decode cX9_asksMore 53 = .ok (.invokevirtual 180, 3) := by decide +kernel
theorem dX9_asksMore_56 : decode cX9_asksMore 56 = .ok (.iload 4, 2) := by decide +kernel
theorem dX9_asksMore_58 : decode cX9_asksMore 58 = .ok (.iload_n 1, 1) := by decide +kernel
theorem dX9_asksMore_59 : decode cX9_asksMore 59 = .ok (.aload_n 0, 1) := by decide +kernel
theorem dX9_asksMore_60 : decode cX9_asksMore 60 = .ok (.getfield 106, 3) := by decide +kernel
theorem dX9_asksMore_63 : decode cX9_asksMore 63 = .ok (.iload_n 1, 1) := by decide +kernel
theorem dX9_asksMore_64 : decode cX9_asksMore 64 = .ok (.iaload, 1) := by decide +kernel
theorem dX9_asksMore_65 : decode cX9_asksMore 65 = .ok (.aload_n 0, 1) := by decide +kernel
theorem dX9_asksMore_66 : decode cX9_asksMore 66 = .ok (.iload_n 3, 1) := by decide +kernel
theorem dX9_asksMore_67 : decode cX9_asksMore 67 = .ok (.invokevirtual 165, 3) := by decide +kernel
theorem dX9_asksMore_70 : decode cX9_asksMore 70 = .ok (.ifCond .eq 12, 3) := by decide +kernel
theorem dX9_asksMore_73 : decode cX9_asksMore 73 = .ok (.aload_n 0, 1) := by decide +kernel
theorem dX9_asksMore_74 : decode cX9_asksMore 74 = .ok (.getfield 82, 3) := by decide +kernel
theorem dX9_asksMore_77 : decode cX9_asksMore 77 = .ok (.iload_n 3, 1) := by decide +kernel
theorem dX9_asksMore_78 : decode cX9_asksMore 78 = .ok (.iaload, 1) := by decide +kernel
theorem dX9_asksMore_79 : decode cX9_asksMore 79 = .ok (.goto 9, 3) := by decide +kernel
theorem dX9_asksMore_82 : decode cX9_asksMore 82 = .ok (.aload_n 0, 1) := by decide +kernel
theorem dX9_asksMore_83 : decode cX9_asksMore 83 = .ok (.getfield 121, 3) := by decide +kernel
theorem dX9_asksMore_86 : decode cX9_asksMore 86 = .ok (.iload_n 1, 1) := by decide +kernel
theorem dX9_asksMore_87 : decode cX9_asksMore 87 = .ok (.iaload, 1) := by decide +kernel
theorem dX9_asksMore_88 : decode cX9_asksMore 88 = .ok (.bipush 7, 2) := by decide +kernel
theorem dX9_asksMore_90 : decode cX9_asksMore 90 = .ok (.iload_n 1, 1) := by decide +kernel
theorem dX9_asksMore_91 : decode cX9_asksMore 91 = .ok (.iadd, 1) := by decide +kernel
theorem dX9_asksMore_92 : decode cX9_asksMore 92 = .ok (.invokevirtual 183, 3) := by decide +kernel
theorem dX9_asksMore_95 : decode cX9_asksMore 95 = .ok (.istore 5, 2) := by decide +kernel
theorem dX9_asksMore_97 : decode cX9_asksMore 97 = .ok (.aload_n 0, 1) := by decide +kernel
theorem dX9_asksMore_98 : decode cX9_asksMore 98 = .ok (.getfield 76, 3) := by decide +kernel
theorem dX9_asksMore_101 : decode cX9_asksMore 101 = .ok (.iload_n 3, 1) := by decide +kernel
theorem dX9_asksMore_102 : decode cX9_asksMore 102 = .ok (.iaload, 1) := by decide +kernel
theorem dX9_asksMore_103 : decode cX9_asksMore 103 = .ok (.iconst 2, 1) := by decide +kernel
theorem dX9_asksMore_104 : decode cX9_asksMore 104 = .ok (.if_icmp .ne 16, 3) := by decide +kernel
theorem dX9_asksMore_107 : decode cX9_asksMore 107 = .ok (.aload_n 0, 1) := by decide +kernel
theorem dX9_asksMore_108 : decode cX9_asksMore 108 = .ok (.getfield 51, 3) := by decide +kernel
theorem dX9_asksMore_111 : decode cX9_asksMore 111 = .ok (.iload 5, 2) := by decide +kernel
theorem dX9_asksMore_113 : decode cX9_asksMore 113 = .ok (.aload_n 0, 1) := by decide +kernel
theorem dX9_asksMore_114 : decode cX9_asksMore 114 = .ok (.getfield 118, 3) := by decide +kernel
theorem dX9_asksMore_117 : decode cX9_asksMore 117 = .ok (.iload_n 1, 1) := by decide +kernel
theorem dX9_asksMore_118 : decode cX9_asksMore 118 = .ok (.iaload, 1) := by decide +kernel
theorem dX9_asksMore_119 : decode cX9_asksMore 119 = .ok (.iastore, 1) := by decide +kernel
theorem dX9_asksMore_120 : decode cX9_asksMore 120 = .ok (.aload_n 0, 1) := by decide +kernel
theorem dX9_asksMore_121 : decode cX9_asksMore 121 = .ok (.getfield 76, 3) := by decide +kernel
theorem dX9_asksMore_124 : decode cX9_asksMore 124 = .ok (.iload_n 3, 1) := by decide +kernel
theorem dX9_asksMore_125 : decode cX9_asksMore 125 = .ok (.iaload, 1) := by decide +kernel
theorem dX9_asksMore_126 : decode cX9_asksMore 126 = .ok (.iconst 2, 1) := by decide +kernel
theorem dX9_asksMore_127 : decode cX9_asksMore 127 = .ok (.if_icmp .ne 25, 3) := by decide +kernel
theorem dX9_asksMore_130 : decode cX9_asksMore 130 = .ok (.aload_n 0, 1) := by decide +kernel
theorem dX9_asksMore_131 : decode cX9_asksMore 131 = .ok (.getfield 115, 3) := by decide +kernel
theorem dX9_asksMore_134 : decode cX9_asksMore 134 = .ok (.iload_n 1, 1) := by decide +kernel
theorem dX9_asksMore_135 : decode cX9_asksMore 135 = .ok (.iaload, 1) := by decide +kernel
theorem dX9_asksMore_136 : decode cX9_asksMore 136 = .ok (.iconst 2, 1) := by decide +kernel
theorem dX9_asksMore_137 : decode cX9_asksMore 137 = .ok (.if_icmp .ne 15, 3) := by decide +kernel
theorem dX9_asksMore_140 : decode cX9_asksMore 140 = .ok (.aload_n 0, 1) := by decide +kernel
theorem dX9_asksMore_141 : decode cX9_asksMore 141 = .ok (.getfield 54, 3) := by decide +kernel
theorem dX9_asksMore_144 : decode cX9_asksMore 144 = .ok (.iload 5, 2) := by decide +kernel
theorem dX9_asksMore_146 : decode cX9_asksMore 146 = .ok (.aload_n 0, 1) := by decide +kernel
theorem dX9_asksMore_147 : decode cX9_asksMore 147 = .ok (.iload_n 1, 1) := by decide +kernel
theorem dX9_asksMore_148 : decode cX9_asksMore 148 = .ok (.invokevirtual 187, 3) := by decide +kernel
theorem dX9_asksMore_151 : decode cX9_asksMore 151 = .ok (.iastore, 1) := by decide +kernel
theorem dX9_asksMore_152 : decode cX9_asksMore 152 = .ok (.aload_n 0, 1) := by decide +kernel
theorem dX9_asksMore_153 : decode cX9_asksMore 153 = .ok (.iload_n 3, 1) := by decide +kernel
theorem dX9_asksMore_154 : decode cX9_asksMore 154 = .ok (.invokevirtual 165, 3) := by decide +kernel
theorem dX9_asksMore_157 : decode cX9_asksMore 157 = .ok (.ifCond .eq 43, 3) := by decide +kernel
theorem dX9_asksMore_160 : decode cX9_asksMore 160 = .ok (.aload_n 0, 1) := by decide +kernel
theorem dX9_asksMore_161 : decode cX9_asksMore 161 = .ok (.getfield 115, 3) := by decide +kernel
theorem dX9_asksMore_164 : decode cX9_asksMore 164 = .ok (.iload_n 1, 1) := by decide +kernel
theorem dX9_asksMore_165 : decode cX9_asksMore 165 = .ok (.iaload, 1) := by decide +kernel
theorem dX9_asksMore_166 : decode cX9_asksMore 166 = .ok (.iconst 2, 1) := by decide +kernel
theorem dX9_asksMore_167 : decode cX9_asksMore 167 = .ok (.if_icmp .ne 33, 3) := by decide +kernel
theorem dX9_asksMore_170 : decode cX9_asksMore 170 = .ok (.aload_n 0, 1) := by decide +kernel
theorem dX9_asksMore_171 : decode cX9_asksMore 171 = .ok (.getfield 51, 3) := by decide +kernel
theorem dX9_asksMore_174 : decode cX9_asksMore 174 = .ok (.iload 5, 2) := by decide +kernel
theorem dX9_asksMore_176 : decode cX9_asksMore 176 = .ok (.aload_n 0, 1) := by decide +kernel
theorem dX9_asksMore_177 : decode cX9_asksMore 177 = .ok (.getfield 127, 3) := by decide +kernel
theorem dX9_asksMore_180 : decode cX9_asksMore 180 = .ok (.iconst 3, 1) := by decide +kernel
theorem dX9_asksMore_181 : decode cX9_asksMore 181 = .ok (.iload_n 1, 1) := by decide +kernel
theorem dX9_asksMore_182 : decode cX9_asksMore 182 = .ok (.imul, 1) := by decide +kernel
theorem dX9_asksMore_183 : decode cX9_asksMore 183 = .ok (.iaload, 1) := by decide +kernel
theorem dX9_asksMore_184 : decode cX9_asksMore 184 = .ok (.iastore, 1) := by decide +kernel
theorem dX9_asksMore_185 : decode cX9_asksMore 185 = .ok (.aload_n 0, 1) := by decide +kernel
theorem dX9_asksMore_186 : decode cX9_asksMore 186 = .ok (.getfield 54, 3) := by decide +kernel
theorem dX9_asksMore_189 : decode cX9_asksMore 189 = .ok (.iload 5, 2) := by decide +kernel
theorem dX9_asksMore_191 : decode cX9_asksMore 191 = .ok (.aload_n 0, 1) := by decide +kernel
theorem dX9_asksMore_192 : decode cX9_asksMore 192 = .ok (.getfield 130, 3) := by decide +kernel
theorem dX9_asksMore_195 : decode cX9_asksMore 195 = .ok (.iconst 3, 1) := by decide +kernel
theorem dX9_asksMore_196 : decode cX9_asksMore 196 = .ok (.iload_n 1, 1) := by decide +kernel
theorem dX9_asksMore_197 : decode cX9_asksMore 197 = .ok (.imul, 1) := by decide +kernel
theorem dX9_asksMore_198 : decode cX9_asksMore 198 = .ok (.iaload, 1) := by decide +kernel
theorem dX9_asksMore_199 : decode cX9_asksMore 199 = .ok (.iastore, 1) := by decide +kernel
theorem dX9_asksMore_200 : decode cX9_asksMore 200 = .ok (.aload_n 0, 1) := by decide +kernel
theorem dX9_asksMore_201 : decode cX9_asksMore 201 = .ok (.getfield 76, 3) := by decide +kernel
theorem dX9_asksMore_204 : decode cX9_asksMore 204 = .ok (.iload_n 3, 1) := by decide +kernel
theorem dX9_asksMore_205 : decode cX9_asksMore 205 = .ok (.iaload, 1) := by decide +kernel
theorem dX9_asksMore_206 : decode cX9_asksMore 206 = .ok (.iconst 3, 1) := by decide +kernel
theorem dX9_asksMore_207 : decode cX9_asksMore 207 = .ok (.if_icmp .ne 111, 3) := by decide +kernel
theorem dX9_asksMore_210 : decode cX9_asksMore 210 = .ok (.aload_n 0, 1) := by decide +kernel
theorem dX9_asksMore_211 : decode cX9_asksMore 211 = .ok (.getfield 115, 3) := by decide +kernel
theorem dX9_asksMore_214 : decode cX9_asksMore 214 = .ok (.iload_n 1, 1) := by decide +kernel
theorem dX9_asksMore_215 : decode cX9_asksMore 215 = .ok (.iaload, 1) := by decide +kernel
theorem dX9_asksMore_216 : decode cX9_asksMore 216 = .ok (.iconst 2, 1) := by decide +kernel
theorem dX9_asksMore_217 : decode cX9_asksMore 217 = .ok (.if_icmp .ne 101, 3) := by decide +kernel
theorem dX9_asksMore_220 : decode cX9_asksMore 220 = .ok (.aload_n 0, 1) := by decide +kernel
theorem dX9_asksMore_221 : decode cX9_asksMore 221 = .ok (.getfield 51, 3) := by decide +kernel
theorem dX9_asksMore_224 : decode cX9_asksMore 224 = .ok (.iload 5, 2) := by decide +kernel
theorem dX9_asksMore_226 : decode cX9_asksMore 226 = .ok (.aload_n 0, 1) := by decide +kernel
theorem dX9_asksMore_227 : decode cX9_asksMore 227 = .ok (.getfield 127, 3) := by decide +kernel
theorem dX9_asksMore_230 : decode cX9_asksMore 230 = .ok (.iconst 3, 1) := by decide +kernel
theorem dX9_asksMore_231 : decode cX9_asksMore 231 = .ok (.iload_n 1, 1) := by decide +kernel
theorem dX9_asksMore_232 : decode cX9_asksMore 232 = .ok (.imul, 1) := by decide +kernel
theorem dX9_asksMore_233 : decode cX9_asksMore 233 = .ok (.iaload, 1) := by decide +kernel
theorem dX9_asksMore_234 : decode cX9_asksMore 234 = .ok (.iastore, 1) := by decide +kernel
theorem dX9_asksMore_235 : decode cX9_asksMore 235 = .ok (.aload_n 0, 1) := by decide +kernel
theorem dX9_asksMore_236 : decode cX9_asksMore 236 = .ok (.getfield 54, 3) := by decide +kernel
theorem dX9_asksMore_239 : decode cX9_asksMore 239 = .ok (.iload 5, 2) := by decide +kernel
theorem dX9_asksMore_241 : decode cX9_asksMore 241 = .ok (.aload_n 0, 1) := by decide +kernel
theorem dX9_asksMore_242 : decode cX9_asksMore 242 = .ok (.getfield 130, 3) := by decide +kernel
theorem dX9_asksMore_245 : decode cX9_asksMore 245 = .ok (.iconst 3, 1) := by decide +kernel
theorem dX9_asksMore_246 : decode cX9_asksMore 246 = .ok (.iload_n 1, 1) := by decide +kernel
theorem dX9_asksMore_247 : decode cX9_asksMore 247 = .ok (.imul, 1) := by decide +kernel
theorem dX9_asksMore_248 : decode cX9_asksMore 248 = .ok (.iaload, 1) := by decide +kernel
theorem dX9_asksMore_249 : decode cX9_asksMore 249 = .ok (.iastore, 1) := by decide +kernel
theorem dX9_asksMore_250 : decode cX9_asksMore 250 = .ok (.aload_n 0, 1) := by decide +kernel
theorem dX9_asksMore_251 : decode cX9_asksMore 251 = .ok (.getfield 57, 3) := by decide +kernel
theorem dX9_asksMore_254 : decode cX9_asksMore 254 = .ok (.iload 5, 2) := by decide +kernel
theorem dX9_asksMore_256 : decode cX9_asksMore 256 = .ok (.aload_n 0, 1) := by decide +kernel
theorem dX9_asksMore_257 : decode cX9_asksMore 257 = .ok (.getfield 127, 3) := by decide +kernel
theorem dX9_asksMore_260 : decode cX9_asksMore 260 = .ok (.iconst 3, 1) := by decide +kernel
theorem dX9_asksMore_261 : decode cX9_asksMore 261 = .ok (.iload_n 1, 1) := by decide +kernel
theorem dX9_asksMore_262 : decode cX9_asksMore 262 = .ok (.imul, 1) := by decide +kernel
theorem dX9_asksMore_263 : decode cX9_asksMore 263 = .ok (.iconst 1, 1) := by decide +kernel
theorem dX9_asksMore_264 : decode cX9_asksMore 264 = .ok (.iadd, 1) := by decide +kernel
theorem dX9_asksMore_265 : decode cX9_asksMore 265 = .ok (.iaload, 1) := by decide +kernel
theorem dX9_asksMore_266 : decode cX9_asksMore 266 = .ok (.iastore, 1) := by decide +kernel
theorem dX9_asksMore_267 : decode cX9_asksMore 267 = .ok (.aload_n 0, 1) := by decide +kernel
theorem dX9_asksMore_268 : decode cX9_asksMore 268 = .ok (.getfield 60, 3) := by decide +kernel
theorem dX9_asksMore_271 : decode cX9_asksMore 271 = .ok (.iload 5, 2) := by decide +kernel
theorem dX9_asksMore_273 : decode cX9_asksMore 273 = .ok (.aload_n 0, 1) := by decide +kernel
theorem dX9_asksMore_274 : decode cX9_asksMore 274 = .ok (.getfield 130, 3) := by decide +kernel
theorem dX9_asksMore_277 : decode cX9_asksMore 277 = .ok (.iconst 3, 1) := by decide +kernel
theorem dX9_asksMore_278 : decode cX9_asksMore 278 = .ok (.iload_n 1, 1) := by decide +kernel
theorem dX9_asksMore_279 : decode cX9_asksMore 279 = .ok (.imul, 1) := by decide +kernel
theorem dX9_asksMore_280 : decode cX9_asksMore 280 = .ok (.iconst 1, 1) := by decide +kernel
theorem dX9_asksMore_281 : decode cX9_asksMore 281 = .ok (.iadd, 1) := by decide +kernel
theorem dX9_asksMore_282 : decode cX9_asksMore 282 = .ok (.iaload, 1) := by decide +kernel
theorem dX9_asksMore_283 : decode cX9_asksMore 283 = .ok (.iastore, 1) := by decide +kernel
theorem dX9_asksMore_284 : decode cX9_asksMore 284 = .ok (.aload_n 0, 1) := by decide +kernel
theorem dX9_asksMore_285 : decode cX9_asksMore 285 = .ok (.getfield 63, 3) := by decide +kernel
theorem dX9_asksMore_288 : decode cX9_asksMore 288 = .ok (.iload 5, 2) := by decide +kernel
theorem dX9_asksMore_290 : decode cX9_asksMore 290 = .ok (.aload_n 0, 1) := by decide +kernel
theorem dX9_asksMore_291 : decode cX9_asksMore 291 = .ok (.getfield 127, 3) := by decide +kernel
theorem dX9_asksMore_294 : decode cX9_asksMore 294 = .ok (.iconst 3, 1) := by decide +kernel
theorem dX9_asksMore_295 : decode cX9_asksMore 295 = .ok (.iload_n 1, 1) := by decide +kernel
theorem dX9_asksMore_296 : decode cX9_asksMore 296 = .ok (.imul, 1) := by decide +kernel
theorem dX9_asksMore_297 : decode cX9_asksMore 297 = .ok (.iconst 2, 1) := by decide +kernel
theorem dX9_asksMore_298 : decode cX9_asksMore 298 = .ok (.iadd, 1) := by decide +kernel
theorem dX9_asksMore_299 : decode cX9_asksMore 299 = .ok (.iaload, 1) := by decide +kernel
theorem dX9_asksMore_300 : decode cX9_asksMore 300 = .ok (.iastore, 1) := by decide +kernel
theorem dX9_asksMore_301 : decode cX9_asksMore 301 = .ok (.aload_n 0, 1) := by decide +kernel
theorem dX9_asksMore_302 : decode cX9_asksMore 302 = .ok (.getfield 66, 3) := by decide +kernel
theorem dX9_asksMore_305 : decode cX9_asksMore 305 = .ok (.iload 5, 2) := by decide +kernel
theorem dX9_asksMore_307 : decode cX9_asksMore 307 = .ok (.aload_n 0, 1) := by decide +kernel
theorem dX9_asksMore_308 : decode cX9_asksMore 308 = .ok (.getfield 130, 3) := by decide +kernel
theorem dX9_asksMore_311 : decode cX9_asksMore 311 = .ok (.iconst 3, 1) := by decide +kernel
theorem dX9_asksMore_312 : decode cX9_asksMore 312 = .ok (.iload_n 1, 1) := by decide +kernel
theorem dX9_asksMore_313 : decode cX9_asksMore 313 = .ok (.imul, 1) := by decide +kernel
theorem dX9_asksMore_314 : decode cX9_asksMore 314 = .ok (.iconst 2, 1) := by decide +kernel
theorem dX9_asksMore_315 : decode cX9_asksMore 315 = .ok (.iadd, 1) := by decide +kernel
theorem dX9_asksMore_316 : decode cX9_asksMore 316 = .ok (.iaload, 1) := by decide +kernel
theorem dX9_asksMore_317 : decode cX9_asksMore 317 = .ok (.iastore, 1) := by decide +kernel
theorem dX9_asksMore_318 : decode cX9_asksMore 318 = .ok (.iinc 4 1, 3) := by decide +kernel
theorem dX9_asksMore_321 : decode cX9_asksMore 321 = .ok (.goto (-296), 3) := by decide +kernel
theorem dX9_asksMore_324 : decode cX9_asksMore 324 = .ok (.aload_n 0, 1) := by decide +kernel
theorem dX9_asksMore_325 : decode cX9_asksMore 325 = .ok (.getfield 109, 3) := by decide +kernel
theorem dX9_asksMore_328 : decode cX9_asksMore 328 = .ok (.iload_n 1, 1) := by decide +kernel
theorem dX9_asksMore_329 : decode cX9_asksMore 329 = .ok (.aload_n 0, 1) := by decide +kernel
theorem dX9_asksMore_330 : decode cX9_asksMore 330 = .ok (.getfield 109, 3) := by decide +kernel
theorem dX9_asksMore_333 : decode cX9_asksMore 333 = .ok (.iload_n 1, 1) := by decide +kernel
theorem dX9_asksMore_334 : decode cX9_asksMore 334 = .ok (.iaload, 1) := by decide +kernel
theorem dX9_asksMore_335 : decode cX9_asksMore 335 = .ok (.iload_n 2, 1) := by decide +kernel
theorem dX9_asksMore_336 : decode cX9_asksMore 336 = .ok (.ior, 1) := by decide +kernel
theorem dX9_asksMore_337 : decode cX9_asksMore 337 = .ok (.iastore, 1) := by decide +kernel
theorem dX9_asksMore_338 : decode cX9_asksMore 338 = .ok (.return_, 1) := by decide +kernel
theorem dX9_offered_0 : decode cX9_offered 0 = .ok (.aload_n 0, 1) := by decide +kernel
theorem dX9_offered_1 : decode cX9_offered 1 = .ok (.getfield 127, 3) := by decide +kernel
theorem dX9_offered_4 : decode cX9_offered 4 = .ok (.iconst 3, 1) := by decide +kernel
theorem dX9_offered_5 : decode cX9_offered 5 = .ok (.iload_n 1, 1) := by decide +kernel
theorem dX9_offered_6 : decode cX9_offered 6 = .ok (.imul, 1) := by decide +kernel
theorem dX9_offered_7 : decode cX9_offered 7 = .ok (.iaload, 1) := by decide +kernel
theorem dX9_offered_8 : decode cX9_offered 8 = .ok (.ifCond .le 14, 3) := by decide +kernel
theorem dX9_offered_11 : decode cX9_offered 11 = .ok (.aload_n 0, 1) := by decide +kernel
theorem dX9_offered_12 : decode cX9_offered 12 = .ok (.getfield 130, 3) := by decide +kernel
theorem dX9_offered_15 : decode cX9_offered 15 = .ok (.iconst 3, 1) := by decide +kernel
theorem dX9_offered_16 : decode cX9_offered 16 = .ok (.iload_n 1, 1) := by decide +kernel
theorem dX9_offered_17 : decode cX9_offered 17 = .ok (.imul, 1) := by decide +kernel
theorem dX9_offered_18 : decode cX9_offered 18 = .ok (.iaload, 1) := by decide +kernel
theorem dX9_offered_19 : decode cX9_offered 19 = .ok (.goto 14, 3) := by decide +kernel
theorem dX9_offered_22 : decode cX9_offered 22 = .ok (.aload_n 0, 1) := by decide +kernel
theorem dX9_offered_23 : decode cX9_offered 23 = .ok (.getfield 82, 3) := by decide +kernel
theorem dX9_offered_26 : decode cX9_offered 26 = .ok (.aload_n 0, 1) := by decide +kernel
theorem dX9_offered_27 : decode cX9_offered 27 = .ok (.getfield 103, 3) := by decide +kernel
theorem dX9_offered_30 : decode cX9_offered 30 = .ok (.iload_n 1, 1) := by decide +kernel
theorem dX9_offered_31 : decode cX9_offered 31 = .ok (.iaload, 1) := by decide +kernel
theorem dX9_offered_32 : decode cX9_offered 32 = .ok (.iaload, 1) := by decide +kernel
theorem dX9_offered_33 : decode cX9_offered 33 = .ok (.ireturn, 1) := by decide +kernel
theorem dX9_beginRound_0 : decode cX9_beginRound 0 = .ok (.aload_n 0, 1) := by decide +kernel
theorem dX9_beginRound_1 : decode cX9_beginRound 1 = .ok (.getfield 106, 3) := by decide +kernel
theorem dX9_beginRound_4 : decode cX9_beginRound 4 = .ok (.iload_n 1, 1) := by decide +kernel
theorem dX9_beginRound_5 : decode cX9_beginRound 5 = .ok (.aload_n 0, 1) := by decide +kernel
theorem dX9_beginRound_6 : decode cX9_beginRound 6 = .ok (.getfield 106, 3) := by decide +kernel
theorem dX9_beginRound_9 : decode cX9_beginRound 9 = .ok (.iload_n 1, 1) := by decide +kernel
theorem dX9_beginRound_10 : decode cX9_beginRound 10 = .ok (.iaload, 1) := by decide +kernel
theorem dX9_beginRound_11 : decode cX9_beginRound 11 = .ok (.iconst 1, 1) := by decide +kernel
theorem dX9_beginRound_12 : decode cX9_beginRound 12 = .ok (.iadd, 1) := by decide +kernel
theorem dX9_beginRound_13 : decode cX9_beginRound 13 = .ok (.iastore, 1) := by decide +kernel
theorem dX9_beginRound_14 : decode cX9_beginRound 14 = .ok (.aload_n 0, 1) := by decide +kernel
theorem dX9_beginRound_15 : decode cX9_beginRound 15 = .ok (.getfield 115, 3) := by decide +kernel
theorem dX9_beginRound_18 : decode cX9_beginRound 18 = .ok (.iload_n 1, 1) := by decide +kernel
theorem dX9_beginRound_19 : decode cX9_beginRound 19 = .ok (.iload_n 2, 1) := by decide +kernel
theorem dX9_beginRound_20 : decode cX9_beginRound 20 = .ok (.iastore, 1) := by decide +kernel
theorem dX9_beginRound_21 : decode cX9_beginRound 21 = .ok (.aload_n 0, 1) := by decide +kernel
theorem dX9_beginRound_22 : decode cX9_beginRound 22 = .ok (.getfield 109, 3) := by decide +kernel
theorem dX9_beginRound_25 : decode cX9_beginRound 25 = .ok (.iload_n 1, 1) := by decide +kernel
theorem dX9_beginRound_26 : decode cX9_beginRound 26 = .ok (.iconst 0, 1) := by decide +kernel
theorem dX9_beginRound_27 : decode cX9_beginRound 27 = .ok (.iastore, 1) := by decide +kernel
