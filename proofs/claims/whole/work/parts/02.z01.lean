theorem dX9_init_0 : decode cX9_init 0 = .ok (.aload_n 0, 1) := by decide +kernel
theorem dX9_init_1 : decode cX9_init 1 = .ok (.invokespecial 1, 3) := by decide +kernel
theorem dX9_init_4 : decode cX9_init 4 = .ok (.aload_n 0, 1) := by decide +kernel
theorem dX9_init_5 : decode cX9_init 5 = .ok (.iconst 3, 1) := by decide +kernel
theorem dX9_init_6 : decode cX9_init 6 = .ok (.putfield 7, 3) := by decide +kernel
theorem dX9_init_9 : decode cX9_init 9 = .ok (.aload_n 0, 1) := by decide +kernel
theorem dX9_init_10 : decode cX9_init 10 = .ok (.bipush 66, 2) := by decide +kernel
theorem dX9_init_12 : decode cX9_init 12 = .ok (.newarray .int, 2) := by decide +kernel
theorem dX9_init_14 : decode cX9_init 14 = .ok (.dup, 1) := by decide +kernel
theorem dX9_init_15 : decode cX9_init 15 = .ok (.iconst 0, 1) := by decide +kernel
theorem dX9_init_16 : decode cX9_init 16 = .ok (.bipush 7, 2) := by decide +kernel
theorem dX9_init_18 : decode cX9_init 18 = .ok (.iastore, 1) := by decide +kernel
theorem dX9_init_19 : decode cX9_init 19 = .ok (.dup, 1) := by decide +kernel
theorem dX9_init_20 : decode cX9_init 20 = .ok (.iconst 1, 1) := by decide +kernel
theorem dX9_init_21 : decode cX9_init 21 = .ok (.iconst 0, 1) := by decide +kernel
theorem dX9_init_22 : decode cX9_init 22 = .ok (.iastore, 1) := by decide +kernel
theorem dX9_init_23 : decode cX9_init 23 = .ok (.dup, 1) := by decide +kernel
theorem dX9_init_24 : decode cX9_init 24 = .ok (.iconst 2, 1) := by decide +kernel
theorem dX9_init_25 : decode cX9_init 25 = .ok (.iconst 0, 1) := by decide +kernel
theorem dX9_init_26 : decode cX9_init 26 = .ok (.iastore, 1) := by decide +kernel
theorem dX9_init_27 : decode cX9_init 27 = .ok (.dup, 1) := by decide +kernel
theorem dX9_init_28 : decode cX9_init 28 = .ok (.iconst 3, 1) := by decide +kernel
theorem dX9_init_29 : decode cX9_init 29 = .ok (.iconst 0, 1) := by decide +kernel
theorem dX9_init_30 : decode cX9_init 30 = .ok (.iastore, 1) := by decide +kernel
theorem dX9_init_31 : decode cX9_init 31 = .ok (.dup, 1) := by decide +kernel
theorem dX9_init_32 : decode cX9_init 32 = .ok (.iconst 4, 1) := by decide +kernel
theorem dX9_init_33 : decode cX9_init 33 = .ok (.iconst 0, 1) := by decide +kernel
theorem dX9_init_34 : decode cX9_init 34 = .ok (.iastore, 1) := by decide +kernel
theorem dX9_init_35 : decode cX9_init 35 = .ok (.dup, 1) := by decide +kernel
theorem dX9_init_36 : decode cX9_init 36 = .ok (.iconst 5, 1) := by decide +kernel
theorem dX9_init_37 : decode cX9_init 37 = .ok (.iconst 0, 1) := by decide +kernel
theorem dX9_init_38 : decode cX9_init 38 = .ok (.iastore, 1) := by decide +kernel
theorem dX9_init_39 : decode cX9_init 39 = .ok (.dup, 1) := by decide +kernel
theorem dX9_init_40 : decode cX9_init 40 = .ok (.bipush 6, 2) := by decide +kernel
theorem dX9_init_42 : decode cX9_init 42 = .ok (.bipush 7, 2) := by decide +kernel
theorem dX9_init_44 : decode cX9_init 44 = .ok (.iastore, 1) := by decide +kernel
theorem dX9_init_45 : decode cX9_init 45 = .ok (.dup, 1) := by decide +kernel
theorem dX9_init_46 : decode cX9_init 46 = .ok (.bipush 7, 2) := by decide +kernel
theorem dX9_init_48 : decode cX9_init 48 = .ok (.iconst 0, 1) := by decide +kernel
theorem dX9_init_49 : decode cX9_init 49 = .ok (.iastore, 1) := by decide +kernel
theorem dX9_init_50 : decode cX9_init 50 = .ok (.dup, 1) := by decide +kernel
theorem dX9_init_51 : decode cX9_init 51 = .ok (.bipush 8, 2) := by decide +kernel
theorem dX9_init_53 : decode cX9_init 53 = .ok (.iconst 0, 1) := by decide +kernel
theorem dX9_init_54 : decode cX9_init 54 = .ok (.iastore, 1) := by decide +kernel
theorem dX9_init_55 : decode cX9_init 55 = .ok (.dup, 1) := by decide +kernel
theorem dX9_init_56 : decode cX9_init 56 = .ok (.bipush 9, 2) := by decide +kernel
theorem dX9_init_58 : decode cX9_init 58 = .ok (.iconst 0, 1) := by decide +kernel
theorem dX9_init_59 : decode cX9_init 59 = .ok (.iastore, 1) := by decide +kernel
theorem dX9_init_60 : decode cX9_init 60 = .ok (.dup, 1) := by decide +kernel
theorem dX9_init_61 : decode cX9_init 61 = .ok (.bipush 10, 2) := by decide +kernel
theorem dX9_init_63 : decode cX9_init 63 = .ok (.iconst 0, 1) := by decide +kernel
theorem dX9_init_64 : decode cX9_init 64 = .ok (.iastore, 1) := by decide +kernel
theorem dX9_init_65 : decode cX9_init 65 = .ok (.dup, 1) := by decide +kernel
theorem dX9_init_66 : decode cX9_init 66 = .ok (.bipush 11, 2) := by decide +kernel
theorem dX9_init_68 : decode cX9_init 68 = .ok (.iconst 0, 1) := by decide +kernel
theorem dX9_init_69 : decode cX9_init 69 = .ok (.iastore, 1) := by decide +kernel
theorem dX9_init_70 : decode cX9_init 70 = .ok (.dup, 1) := by decide +kernel
theorem dX9_init_71 : decode cX9_init 71 = .ok (.bipush 12, 2) := by decide +kernel
theorem dX9_init_73 : decode cX9_init 73 = .ok (.bipush 7, 2) := by decide +kernel
theorem dX9_init_75 : decode cX9_init 75 = .ok (.iastore, 1) := by decide +kernel
theorem dX9_init_76 : decode cX9_init 76 = .ok (.dup, 1) := by decide +kernel
theorem dX9_init_77 : decode cX9_init 77 = .ok (.bipush 13, 2) := by decide +kernel
theorem dX9_init_79 : decode cX9_init 79 = .ok (.iconst 0, 1) := by decide +kernel
theorem dX9_init_80 : decode cX9_init 80 = .ok (.iastore, 1) := by decide +kernel
theorem dX9_init_81 : decode cX9_init 81 = .ok (.dup, 1) := by decide +kernel
theorem dX9_init_82 : decode cX9_init 82 = .ok (.bipush 14, 2) := by decide +kernel
theorem dX9_init_84 : decode cX9_init 84 = .ok (.iconst 0, 1) := by decide +kernel
theorem dX9_init_85 : decode cX9_init 85 = .ok (.iastore, 1) := by decide +kernel
theorem dX9_init_86 : decode cX9_init 86 = .ok (.dup, 1) := by decide +kernel
theorem dX9_init_87 : decode cX9_init 87 = .ok (.bipush 15, 2) := by decide +kernel
theorem dX9_init_89 : decode cX9_init 89 = .ok (.iconst 0, 1) := by decide +kernel
theorem dX9_init_90 : decode cX9_init 90 = .ok (.iastore, 1) := by decide +kernel
theorem dX9_init_91 : decode cX9_init 91 = .ok (.dup, 1) := by decide +kernel
theorem dX9_init_92 : decode cX9_init 92 = .ok (.bipush 16, 2) := by decide +kernel
theorem dX9_init_94 : decode cX9_init 94 = .ok (.iconst 0, 1) := by decide +kernel
theorem dX9_init_95 : decode cX9_init 95 = .ok (.iastore, 1) := by decide +kernel
theorem dX9_init_96 : decode cX9_init 96 = .ok (.dup, 1) := by decide +kernel
theorem dX9_init_97 : decode cX9_init 97 = .ok (.bipush 17, 2) := by decide +kernel
theorem dX9_init_99 : decode cX9_init 99 = .ok (.iconst 0, 1) := by decide +kernel
theorem dX9_init_100 : decode cX9_init 100 = .ok (.iastore, 1) := by decide +kernel
theorem dX9_init_101 : decode cX9_init 101 = .ok (.dup, 1) := by decide +kernel
theorem dX9_init_102 : decode cX9_init 102 = .ok (.bipush 18, 2) := by decide +kernel
theorem dX9_init_104 : decode cX9_init 104 = .ok (.bipush 7, 2) := by decide +kernel
theorem dX9_init_106 : decode cX9_init 106 = .ok (.iastore, 1) := by decide +kernel
theorem dX9_init_107 : decode cX9_init 107 = .ok (.dup, 1) := by decide +kernel
theorem dX9_init_108 : decode cX9_init 108 = .ok (.bipush 19, 2) := by decide +kernel
theorem dX9_init_110 : decode cX9_init 110 = .ok (.iconst 0, 1) := by decide +kernel
theorem dX9_init_111 : decode cX9_init 111 = .ok (.iastore, 1) := by decide +kernel
theorem dX9_init_112 : decode cX9_init 112 = .ok (.dup, 1) := by decide +kernel
theorem dX9_init_113 : decode cX9_init 113 = .ok (.bipush 20, 2) := by decide +kernel
theorem dX9_init_115 : decode cX9_init 115 = .ok (.iconst 0, 1) := by decide +kernel
theorem dX9_init_116 : decode cX9_init 116 = .ok (.iastore, 1) := by decide +kernel
theorem dX9_init_117 : decode cX9_init 117 = .ok (.dup, 1) := by decide +kernel
theorem dX9_init_118 : decode cX9_init 118 = .ok (.bipush 21, 2) := by decide +kernel
theorem dX9_init_120 : decode cX9_init 120 = .ok (.iconst 0, 1) := by decide +kernel
theorem dX9_init_121 : decode cX9_init 121 = .ok (.iastore, 1) := by decide +kernel
theorem dX9_init_122 : decode cX9_init 122 = .ok (.dup, 1) := by decide +kernel
theorem dX9_init_123 : decode cX9_init 123 = .ok (.bipush 22, 2) := by decide +kernel
theorem dX9_init_125 : decode cX9_init 125 = .ok (.iconst 0, 1) := by decide +kernel
theorem dX9_init_126 : decode cX9_init 126 = .ok (.iastore, 1) := by decide +kernel
theorem dX9_init_127 : decode cX9_init 127 = .ok (.dup, 1) := by decide +kernel
theorem dX9_init_128 : decode cX9_init 128 = .ok (.bipush 23, 2) := by decide +kernel
theorem dX9_init_130 : decode cX9_init 130 = .ok (.iconst 0, 1) := by decide +kernel
theorem dX9_init_131 : decode cX9_init 131 = .ok (.iastore, 1) := by decide +kernel
theorem dX9_init_132 : decode cX9_init 132 = .ok (.dup, 1) := by decide +kernel
theorem dX9_init_133 : decode cX9_init 133 = .ok (.bipush 24, 2) := by decide +kernel
theorem dX9_init_135 : decode cX9_init 135 = .ok (.bipush 7, 2) := by decide +kernel
theorem dX9_init_137 : decode cX9_init 137 = .ok (.iastore, 1) := by decide +kernel
theorem dX9_init_138 : decode cX9_init 138 = .ok (.dup, 1) := by decide +kernel
theorem dX9_init_139 : decode cX9_init 139 = .ok (.bipush 25, 2) := by decide +kernel
theorem dX9_init_141 : decode cX9_init 141 = .ok (.iconst 0, 1) := by decide +kernel
theorem dX9_init_142 : decode cX9_init 142 = .ok (.iastore, 1) := by decide +kernel
theorem dX9_init_143 : decode cX9_init 143 = .ok (.dup, 1) := by decide +kernel
theorem dX9_init_144 : decode cX9_init 144 = .ok (.bipush 26, 2) := by decide +kernel
theorem dX9_init_146 : decode cX9_init 146 = .ok (.iconst 0, 1) := by decide +kernel
theorem dX9_init_147 : decode cX9_init 147 = .ok (.iastore, 1) := by decide +kernel
theorem dX9_init_148 : decode cX9_init 148 = .ok (.dup, 1) := by decide +kernel
theorem dX9_init_149 : decode cX9_init 149 = .ok (.bipush 27, 2) := by decide +kernel
theorem dX9_init_151 : decode cX9_init 151 = .ok (.iconst 0, 1) := by decide +kernel
theorem dX9_init_152 : decode cX9_init 152 = .ok (.iastore, 1) := by decide +kernel
theorem dX9_init_153 : decode cX9_init 153 = .ok (.dup, 1) := by decide +kernel
theorem dX9_init_154 : decode cX9_init 154 = .ok (.bipush 28, 2) := by decide +kernel
theorem dX9_init_156 : decode cX9_init 156 = .ok (.iconst 0, 1) := by decide +kernel
theorem dX9_init_157 : decode cX9_init 157 = .ok (.iastore, 1) := by decide +kernel
theorem dX9_init_158 : decode cX9_init 158 = .ok (.dup, 1) := by decide +kernel
theorem dX9_init_159 : decode cX9_init 159 = .ok (.bipush 29, 2) := by decide +kernel
theorem dX9_init_161 : decode cX9_init 161 = .ok (.iconst 0, 1) := by decide +kernel
theorem dX9_init_162 : decode cX9_init 162 = .ok (.iastore, 1) := by decide +kernel
theorem dX9_init_163 : decode cX9_init 163 = .ok (.dup, 1) := by decide +kernel
theorem dX9_init_164 : decode cX9_init 164 = .ok (.bipush 30, 2) := by decide +kernel
theorem dX9_init_166 : decode cX9_init 166 = .ok (.bipush 7, 2) := by decide +kernel
theorem dX9_init_168 : decode cX9_init 168 = .ok (.iastore, 1) := by decide +kernel
theorem dX9_init_169 : decode cX9_init 169 = .ok (.dup, 1) := by decide +kernel
theorem dX9_init_170 : decode cX9_init 170 = .ok (.bipush 31, 2) := by decide +kernel
theorem dX9_init_172 : decode cX9_init 172 = .ok (.iconst 0, 1) := by decide +kernel
theorem dX9_init_173 : decode cX9_init 173 = .ok (.iastore, 1) := by decide +kernel
theorem dX9_init_174 : decode cX9_init 174 = .ok (.dup, 1) := by decide +kernel
theorem dX9_init_175 : decode cX9_init 175 = .ok (.bipush 32, 2) := by decide +kernel
theorem dX9_init_177 : decode cX9_init 177 = .ok (.iconst 0, 1) := by decide +kernel
theorem dX9_init_178 : decode cX9_init 178 = .ok (.iastore, 1) := by decide +kernel
theorem dX9_init_179 : decode cX9_init 179 = .ok (.dup, 1) := by decide +kernel
theorem dX9_init_180 : decode cX9_init 180 = .ok (.bipush 33, 2) := by decide +kernel
theorem dX9_init_182 : decode cX9_init 182 = .ok (.iconst 0, 1) := by decide +kernel
theorem dX9_init_183 : decode cX9_init 183 = .ok (.iastore, 1) := by decide +kernel
theorem dX9_init_184 : decode cX9_init 184 = .ok (.dup, 1) := by decide +kernel
theorem dX9_init_185 : decode cX9_init 185 = .ok (.bipush 34, 2) := by decide +kernel
theorem dX9_init_187 : decode cX9_init 187 = .ok (.iconst 0, 1) := by decide +kernel
theorem dX9_init_188 : decode cX9_init 188 = .ok (.iastore, 1) := by decide +kernel
theorem dX9_init_189 : decode cX9_init 189 = .ok (.dup, 1) := by decide +kernel
theorem dX9_init_190 : decode cX9_init 190 = .ok (.bipush 35, 2) := by decide +kernel
theorem dX9_init_192 : decode cX9_init 192 = .ok (.iconst 0, 1) := by decide +kernel
theorem dX9_init_193 : decode cX9_init 193 = .ok (.iastore, 1) := by decide +kernel
theorem dX9_init_194 : decode cX9_init 194 = .ok (.dup, 1) := by decide +kernel
theorem dX9_init_195 : decode cX9_init 195 = .ok (.bipush 36, 2) := by decide +kernel
theorem dX9_init_197 : decode cX9_init 197 = .ok (.bipush 7, 2) := by decide +kernel
theorem dX9_init_199 : decode cX9_init 199 = .ok (.iastore, 1) := by decide +kernel
theorem dX9_init_200 : decode cX9_init 200 = .ok (.dup, 1) := by decide +kernel
theorem dX9_init_201 : decode cX9_init 201 = .ok (.bipush 37, 2) := by decide +kernel
theorem dX9_init_203 : decode cX9_init 203 = .ok (.iconst 0, 1) := by decide +kernel
theorem dX9_init_204 : decode cX9_init 204 = .ok (.iastore, 1) := by decide +kernel
theorem dX9_init_205 : decode cX9_init 205 = .ok (.dup, 1) := by decide +kernel
theorem dX9_init_206 : decode cX9_init 206 = .ok (.bipush 38, 2) := by decide +kernel
theorem dX9_init_208 : decode cX9_init 208 = .ok (.iconst 0, 1) := by decide +kernel
theorem dX9_init_209 : decode cX9_init 209 = .ok (.iastore, 1) := by decide +kernel
theorem dX9_init_210 : decode cX9_init 210 = .ok (.dup, 1) := by decide +kernel
theorem dX9_init_211 : decode cX9_init 211 = .ok (.bipush 39, 2) := by decide +kernel
theorem dX9_init_213 : decode cX9_init 213 = .ok (.iconst 0, 1) := by decide +kernel
theorem dX9_init_214 : decode cX9_init 214 = .ok (.iastore, 1) := by decide +kernel
theorem dX9_init_215 : decode cX9_init 215 = .ok (.dup, 1) := by decide +kernel
theorem dX9_init_216 : decode cX9_init 216 = .ok (.bipush 40, 2) := by decide +kernel
theorem dX9_init_218 : decode cX9_init 218 = .ok (.iconst 0, 1) := by decide +kernel
theorem dX9_init_219 : decode cX9_init 219 = .ok (.iastore, 1) := by decide +kernel
theorem dX9_init_220 : decode cX9_init 220 = .ok (.dup, 1) := by decide +kernel
theorem dX9_init_221 : decode cX9_init 221 = .ok (.bipush 41, 2) := by decide +kernel
theorem dX9_init_223 : decode cX9_init 223 = .ok (.iconst 0, 1) := by decide +kernel
theorem dX9_init_224 : decode cX9_init 224 = .ok (.iastore, 1) := by decide +kernel
theorem dX9_init_225 : decode cX9_init 225 = .ok (.dup, 1) := by decide +kernel
theorem dX9_init_226 : decode cX9_init 226 = .ok (.bipush 42, 2) := by decide +kernel
theorem dX9_init_228 : decode cX9_init 228 = .ok (.bipush 7, 2) := by decide +kernel
theorem dX9_init_230 : decode cX9_init 230 = .ok (.iastore, 1) := by decide +kernel
theorem dX9_init_231 : decode cX9_init 231 = .ok (.dup, 1) := by decide +kernel
theorem dX9_init_232 : decode cX9_init 232 = .ok (.bipush 43, 2) := by decide +kernel
theorem dX9_init_234 : decode cX9_init 234 = .ok (.iconst 0, 1) := by decide +kernel
theorem dX9_init_235 : decode cX9_init 235 = .ok (.iastore, 1) := by decide +kernel
theorem dX9_init_236 : decode cX9_init 236 = .ok (.dup, 1) := by decide +kernel
theorem dX9_init_237 : decode cX9_init 237 = .ok (.bipush 44, 2) := by decide +kernel
theorem dX9_init_239 : decode cX9_init 239 = .ok (.iconst 0, 1) := by decide +kernel
theorem dX9_init_240 : decode cX9_init 240 = .ok (.iastore, 1) := by decide +kernel
theorem dX9_init_241 : decode cX9_init 241 = .ok (.dup, 1) := by decide +kernel
theorem dX9_init_242 : decode cX9_init 242 = .ok (.bipush 45, 2) := by decide +kernel
theorem dX9_init_244 : decode cX9_init 244 = .ok (.iconst 0, 1) := by decide +kernel
theorem dX9_init_245 : decode cX9_init 245 = .ok (.iastore, 1) := by decide +kernel
theorem dX9_init_246 : decode cX9_init 246 = .ok (.dup, 1) := by decide +kernel
theorem dX9_init_247 : decode cX9_init 247 = .ok (.bipush 46, 2) := by decide +kernel
theorem dX9_init_249 : decode cX9_init 249 = .ok (.iconst 0, 1) := by decide +kernel
theorem dX9_init_250 : decode cX9_init 250 = .ok (.iastore, 1) := by decide +kernel
theorem dX9_init_251 : decode cX9_init 251 = .ok (.dup, 1) := by decide +kernel
theorem dX9_init_252 : decode cX9_init 252 = .ok (.bipush 47, 2) := by decide +kernel
theorem dX9_init_254 : decode cX9_init 254 = .ok (.iconst 0, 1) := by decide +kernel
theorem dX9_init_255 : decode cX9_init 255 = .ok (.iastore, 1) := by decide +kernel
theorem dX9_init_256 : decode cX9_init 256 = .ok (.dup, 1) := by decide +kernel
theorem dX9_init_257 : decode cX9_init 257 = .ok (.bipush 48, 2) := by decide +kernel
theorem dX9_init_259 : decode cX9_init 259 = .ok (.bipush 7, 2) := by decide +kernel
theorem dX9_init_261 : decode cX9_init 261 = .ok (.iastore, 1) := by decide +kernel
theorem dX9_init_262 : decode cX9_init 262 = .ok (.dup, 1) := by decide +kernel
theorem dX9_init_263 : decode cX9_init 263 = .ok (.bipush 49, 2) := by decide +kernel
theorem dX9_init_265 : decode cX9_init 265 = .ok (.iconst 0, 1) := by decide +kernel
theorem dX9_init_266 : decode cX9_init 266 = .ok (.iastore, 1) := by decide +kernel
theorem dX9_init_267 : decode cX9_init 267 = .ok (.dup, 1) := by decide +kernel
theorem dX9_init_268 : decode cX9_init 268 = .ok (.bipush 50, 2) := by decide +kernel
theorem dX9_init_270 : decode cX9_init 270 = .ok (.iconst 0, 1) := by decide +kernel
theorem dX9_init_271 : decode cX9_init 271 = .ok (.iastore, 1) := by decide +kernel
theorem dX9_init_272 : decode cX9_init 272 = .ok (.dup, 1) := by decide +kernel
theorem dX9_init_273 : decode cX9_init 273 = .ok (.bipush 51, 2) := by decide +kernel
theorem dX9_init_275 : decode cX9_init 275 = .ok (.iconst 0, 1) := by decide +kernel
theorem dX9_init_276 : decode cX9_init 276 = .ok (.iastore, 1) := by decide +kernel
theorem dX9_init_277 : decode cX9_init 277 = .ok (.dup, 1) := by decide +kernel
theorem dX9_init_278 : decode cX9_init 278 = .ok (.bipush 52, 2) := by decide +kernel
theorem dX9_init_280 : decode cX9_init 280 = .ok (.iconst 0, 1) := by decide +kernel
theorem dX9_init_281 : decode cX9_init 281 = .ok (.iastore, 1) := by decide +kernel
theorem dX9_init_282 : decode cX9_init 282 = .ok (.dup, 1) := by decide +kernel
theorem dX9_init_283 : decode cX9_init 283 = .ok (.bipush 53, 2) := by decide +kernel
theorem dX9_init_285 : decode cX9_init 285 = .ok (.iconst 0, 1) := by decide +kernel
theorem dX9_init_286 : decode cX9_init 286 = .ok (.iastore, 1) := by decide +kernel
theorem dX9_init_287 : decode cX9_init 287 = .ok (.dup, 1) := by decide +kernel
theorem dX9_init_288 : decode cX9_init 288 = .ok (.bipush 54, 2) := by decide +kernel
theorem dX9_init_290 : decode cX9_init 290 = .ok (.bipush 7, 2) := by decide +kernel
theorem dX9_init_292 : decode cX9_init 292 = .ok (.iastore, 1) := by decide +kernel
theorem dX9_init_293 : decode cX9_init 293 = .ok (.dup, 1) := by decide +kernel
theorem dX9_init_294 : decode cX9_init 294 = .ok (.bipush 55, 2) := by decide +kernel
theorem dX9_init_296 : decode cX9_init 296 = .ok (.iconst 0, 1) := by decide +kernel
theorem dX9_init_297 : decode cX9_init 297 = .ok (.iastore, 1) := by decide +kernel
theorem dX9_init_298 : decode cX9_init 298 = .ok (.dup, 1) := by decide +kernel
theorem dX9_init_299 : decode cX9_init 299 = .ok (.bipush 56, 2) := by decide +kernel
theorem dX9_init_301 : decode cX9_init 301 = .ok (.iconst 0, 1) := by decide +kernel
theorem dX9_init_302 : decode cX9_init 302 = .ok (.iastore, 1) := by decide +kernel
theorem dX9_init_303 : decode cX9_init 303 = .ok (.dup, 1) := by decide +kernel
theorem dX9_init_304 : decode cX9_init 304 = .ok (.bipush 57, 2) := by decide +kernel
theorem dX9_init_306 : decode cX9_init 306 = .ok (.iconst 0, 1) := by decide +kernel
theorem dX9_init_307 : decode cX9_init 307 = .ok (.iastore, 1) := by decide +kernel
theorem dX9_init_308 : decode cX9_init 308 = .ok (.dup, 1) := by decide +kernel
theorem dX9_init_309 : decode cX9_init 309 = .ok (.bipush 58, 2) := by decide +kernel
theorem dX9_init_311 : decode cX9_init 311 = .ok (.iconst 0, 1) := by decide +kernel
theorem dX9_init_312 : decode cX9_init 312 = .ok (.iastore, 1) := by decide +kernel
theorem dX9_init_313 : decode cX9_init 313 = .ok (.dup, 1) := by decide +kernel
theorem dX9_init_314 : decode cX9_init 314 = .ok (.bipush 59, 2) := by decide +kernel
theorem dX9_init_316 : decode cX9_init 316 = .ok (.iconst 0, 1) := by decide +kernel
theorem dX9_init_317 : decode cX9_init 317 = .ok (.iastore, 1) := by decide +kernel
theorem dX9_init_318 : decode cX9_init 318 = .ok (.dup, 1) := by decide +kernel
theorem dX9_init_319 : decode cX9_init 319 = .ok (.bipush 60, 2) := by decide +kernel
theorem dX9_init_321 : decode cX9_init 321 = .ok (.bipush 7, 2) := by decide +kernel
theorem dX9_init_323 : decode cX9_init 323 = .ok (.iastore, 1) := by decide +kernel
theorem dX9_init_324 : decode cX9_init 324 = .ok (.dup, 1) := by decide +kernel
theorem dX9_init_325 : decode cX9_init 325 = .ok (.bipush 61, 2) := by decide +kernel
theorem dX9_init_327 : decode cX9_init 327 = .ok (.iconst 0, 1) := by decide +kernel
theorem dX9_init_328 : decode cX9_init 328 = .ok (.iastore, 1) := by decide +kernel
theorem dX9_init_329 : decode cX9_init 329 = .ok (.dup, 1) := by decide +kernel
theorem dX9_init_330 : decode cX9_init 330 = .ok (.bipush 62, 2) := by decide +kernel
theorem dX9_init_332 : decode cX9_init 332 = .ok (.iconst 0, 1) := by decide +kernel
theorem dX9_init_333 : decode cX9_init 333 = .ok (.iastore, 1) := by decide +kernel
theorem dX9_init_334 : decode cX9_init 334 = .ok (.dup, 1) := by decide +kernel
theorem dX9_init_335 : decode cX9_init 335 = .ok (.bipush 63, 2) := by decide +kernel
theorem dX9_init_337 : decode cX9_init 337 = .ok (.iconst 0, 1) := by decide +kernel
theorem dX9_init_338 : decode cX9_init 338 = .ok (.iastore, 1) := by decide +kernel
theorem dX9_init_339 : decode cX9_init 339 = .ok (.dup, 1) := by decide +kernel
theorem dX9_init_340 : decode cX9_init 340 = .ok (.bipush 64, 2) := by decide +kernel
theorem dX9_init_342 : decode cX9_init 342 = .ok (.iconst 0, 1) := by decide +kernel
theorem dX9_init_343 : decode cX9_init 343 = .ok (.iastore, 1) := by decide +kernel
theorem dX9_init_344 : decode cX9_init 344 = .ok (.dup, 1) := by decide +kernel
theorem dX9_init_345 : decode cX9_init 345 = .ok (.bipush 65, 2) := by decide +kernel
theorem dX9_init_347 : decode cX9_init 347 = .ok (.iconst 0, 1) := by decide +kernel
theorem dX9_init_348 : decode cX9_init 348 = .ok (.iastore, 1) := by decide +kernel
theorem dX9_init_349 : decode cX9_init 349 = .ok (.putfield 13, 3) := by decide +kernel
theorem dX9_init_352 : decode cX9_init 352 = .ok (.aload_n 0, 1) := by decide +kernel
theorem dX9_init_353 : decode cX9_init 353 = .ok (.bipush 11, 2) := by decide +kernel
theorem dX9_init_355 : decode cX9_init 355 = .ok (.newarray .boolean, 2) := by decide +kernel
theorem dX9_init_357 : decode cX9_init 357 = .ok (.putfield 17, 3) := by decide +kernel
theorem dX9_init_360 : decode cX9_init 360 = .ok (.aload_n 0, 1) := by decide +kernel
theorem dX9_init_361 : decode cX9_init 361 = .ok (.bipush 21, 2) := by decide +kernel
theorem dX9_init_363 : decode cX9_init 363 = .ok (.newarray .int, 2) := by decide +kernel
theorem dX9_init_365 : decode cX9_init 365 = .ok (.putfield 21, 3) := by decide +kernel
theorem dX9_init_368 : decode cX9_init 368 = .ok (.aload_n 0, 1) := by decide +kernel
theorem dX9_init_369 : decode cX9_init 369 = .ok (.bipush 21, 2) := by decide +kernel
theorem dX9_init_371 : decode cX9_init 371 = .ok (.newarray .int, 2) := by decide +kernel
theorem dX9_init_373 : decode cX9_init 373 = .ok (.putfield 24, 3) := by decide +kernel
theorem dX9_init_376 : decode cX9_init 376 = .ok (.aload_n 0, 1) := by decide +kernel
theorem dX9_init_377 : decode cX9_init 377 = .ok (.bipush 35, 2) := by decide +kernel
theorem dX9_init_379 : decode cX9_init 379 = .ok (.newarray .int, 2) := by decide +kernel
theorem dX9_init_381 : decode cX9_init 381 = .ok (.putfield 27, 3) := by decide +kernel
theorem dX9_init_384 : decode cX9_init 384 = .ok (.aload_n 0, 1) := by decide +kernel
theorem dX9_init_385 : decode cX9_init 385 = .ok (.bipush 35, 2) := by decide +kernel
theorem dX9_init_387 : decode cX9_init 387 = .ok (.newarray .int, 2) := by decide +kernel
theorem dX9_init_389 : decode cX9_init 389 = .ok (.putfield 30, 3) := by decide +kernel
theorem dX9_init_392 : decode cX9_init 392 = .ok (.aload_n 0, 1) := by decide +kernel
theorem dX9_init_393 : decode cX9_init 393 = .ok (.bipush 35, 2) := by decide +kernel
theorem dX9_init_395 : decode cX9_init 395 = .ok (.newarray .int, 2) := by decide +kernel
theorem dX9_init_397 : decode cX9_init 397 = .ok (.putfield 33, 3) := by decide +kernel
theorem dX9_init_400 : decode cX9_init 400 = .ok (.aload_n 0, 1) := by decide +kernel
theorem dX9_init_401 : decode cX9_init 401 = .ok (.sipush 16000, 3) := by decide +kernel
theorem dX9_init_404 : decode cX9_init 404 = .ok (.newarray .int, 2) := by decide +kernel
theorem dX9_init_406 : decode cX9_init 406 = .ok (.putfield 36, 3) := by decide +kernel
theorem dX9_init_409 : decode cX9_init 409 = .ok (.aload_n 0, 1) := by decide +kernel
theorem dX9_init_410 : decode cX9_init 410 = .ok (.sipush 16000, 3) := by decide +kernel
theorem dX9_init_413 : decode cX9_init 413 = .ok (.newarray .int, 2) := by decide +kernel
theorem dX9_init_415 : decode cX9_init 415 = .ok (.putfield 39, 3) := by decide +kernel
theorem dX9_init_418 : decode cX9_init 418 = .ok (.aload_n 0, 1) := by decide +kernel
theorem dX9_init_419 : decode cX9_init 419 = .ok (.sipush 16000, 3) := by decide +kernel
theorem dX9_init_422 : decode cX9_init 422 = .ok (.newarray .int, 2) := by decide +kernel
theorem dX9_init_424 : decode cX9_init 424 = .ok (.putfield 42, 3) := by decide +kernel
theorem dX9_init_427 : decode cX9_init 427 = .ok (.aload_n 0, 1) := by decide +kernel
theorem dX9_init_428 : decode cX9_init 428 = .ok (.sipush 16000, 3) := by decide +kernel
theorem dX9_init_431 : decode cX9_init 431 = .ok (.newarray .int, 2) := by decide +kernel
theorem dX9_init_433 : decode cX9_init 433 = .ok (.putfield 45, 3) := by decide +kernel
theorem dX9_init_436 : decode cX9_init 436 = .ok (.aload_n 0, 1) := by decide +kernel
theorem dX9_init_437 : decode cX9_init 437 = .ok (.sipush 16000, 3) := by decide +kernel
theorem dX9_init_440 : decode cX9_init 440 = .ok (.newarray .int, 2) := by decide +kernel
theorem dX9_init_442 : decode cX9_init 442 = .ok (.putfield 48, 3) := by decide +kernel
theorem dX9_init_445 : decode cX9_init 445 = .ok (.aload_n 0, 1) := by decide +kernel
theorem dX9_init_446 : decode cX9_init 446 = .ok (.sipush 16000, 3) := by decide +kernel
theorem dX9_init_449 : decode cX9_init 449 = .ok (.newarray .int, 2) := by decide +kernel
theorem dX9_init_451 : decode cX9_init 451 = .ok (.putfield 51, 3) := by decide +kernel
theorem dX9_init_454 : decode cX9_init 454 = .ok (.aload_n 0, 1) := by decide +kernel
theorem dX9_init_455 : decode cX9_init 455 = .ok (.sipush 16000, 3) := by decide +kernel
theorem dX9_init_458 : decode cX9_init 458 = .ok (.newarray .int, 2) := by decide +kernel
theorem dX9_init_460 : decode cX9_init 460 = .ok (.putfield 54, 3) := by decide +kernel
theorem dX9_init_463 : decode cX9_init 463 = .ok (.aload_n 0, 1) := by decide +kernel
theorem dX9_init_464 : decode cX9_init 464 = .ok (.sipush 16000, 3) := by decide +kernel
theorem dX9_init_467 : decode cX9_init 467 = .ok (.newarray .int, 2) := by decide +kernel
theorem dX9_init_469 : decode cX9_init 469 = .ok (.putfield 57, 3) := by decide +kernel
theorem dX9_init_472 : decode cX9_init 472 = .ok (.aload_n 0, 1) := by decide +kernel
theorem dX9_init_473 : decode cX9_init 473 = .ok (.sipush 16000, 3) := by decide +kernel
theorem dX9_init_476 : decode cX9_init 476 = .ok (.newarray .int, 2) := by decide +kernel
theorem dX9_init_478 : decode cX9_init 478 = .ok (.putfield 60, 3) := by decide +kernel
theorem dX9_init_481 : decode cX9_init 481 = .ok (.aload_n 0, 1) := by decide +kernel
theorem dX9_init_482 : decode cX9_init 482 = .ok (.sipush 16000, 3) := by decide +kernel
theorem dX9_init_485 : decode cX9_init 485 = .ok (.newarray .int, 2) := by decide +kernel
theorem dX9_init_487 : decode cX9_init 487 = .ok (.putfield 63, 3) := by decide +kernel
theorem dX9_init_490 : decode cX9_init 490 = .ok (.aload_n 0, 1) := by decide +kernel
theorem dX9_init_491 : decode cX9_init 491 = .ok (.sipush 16000, 3) := by decide +kernel
theorem dX9_init_494 : decode cX9_init 494 = .ok (.newarray .int, 2) := by decide +kernel
theorem dX9_init_496 : decode cX9_init 496 = .ok (.putfield 66, 3) := by decide +kernel
theorem dX9_init_499 : decode cX9_init 499 = .ok (.aload_n 0, 1) := by decide +kernel
theorem dX9_init_500 : decode cX9_init 500 = .ok (.sipush 16000, 3) := by decide +kernel
theorem dX9_init_503 : decode cX9_init 503 = .ok (.newarray .boolean, 2) := by decide +kernel
theorem dX9_init_505 : decode cX9_init 505 = .ok (.putfield 69, 3) := by decide +kernel
theorem dX9_init_508 : decode cX9_init 508 = .ok (.aload_n 0, 1) := by decide +kernel
theorem dX9_init_509 : decode cX9_init 509 = .ok (.ldc 72, 2) := by decide +kernel
theorem dX9_init_511 : decode cX9_init 511 = .ok (.newarray .int, 2) := by decide +kernel
theorem dX9_init_513 : decode cX9_init 513 = .ok (.putfield 73, 3) := by decide +kernel
theorem dX9_init_516 : decode cX9_init 516 = .ok (.aload_n 0, 1) := by decide +kernel
theorem dX9_init_517 : decode cX9_init 517 = .ok (.bipush 60, 2) := by decide +kernel
theorem dX9_init_519 : decode cX9_init 519 = .ok (.newarray .int, 2) := by decide +kernel
theorem dX9_init_521 : decode cX9_init 521 = .ok (.putfield 76, 3) := by decide +kernel
theorem dX9_init_524 : decode cX9_init 524 = .ok (.aload_n 0, 1) := by decide +kernel
theorem dX9_init_525 : decode cX9_init 525 = .ok (.bipush 60, 2) := by decide +kernel
theorem dX9_init_527 : decode cX9_init 527 = .ok (.newarray .int, 2) := by decide +kernel
theorem dX9_init_529 : decode cX9_init 529 = .ok (.putfield 79, 3) := by decide +kernel
theorem dX9_init_532 : decode cX9_init 532 = .ok (.aload_n 0, 1) := by decide +kernel
theorem dX9_init_533 : decode cX9_init 533 = .ok (.bipush 60, 2) := by decide +kernel
theorem dX9_init_535 : decode cX9_init 535 = .ok (.newarray .int, 2) := by decide +kernel
theorem dX9_init_537 : decode cX9_init 537 = .ok (.putfield 82, 3) := by decide +kernel
theorem dX9_init_540 : decode cX9_init 540 = .ok (.aload_n 0, 1) := by decide +kernel
theorem dX9_init_541 : decode cX9_init 541 = .ok (.bipush 60, 2) := by decide +kernel
theorem dX9_init_543 : decode cX9_init 543 = .ok (.newarray .int, 2) := by decide +kernel
theorem dX9_init_545 : decode cX9_init 545 = .ok (.putfield 85, 3) := by decide +kernel
theorem dX9_init_548 : decode cX9_init 548 = .ok (.aload_n 0, 1) := by decide +kernel
theorem dX9_init_549 : decode cX9_init 549 = .ok (.bipush 60, 2) := by decide +kernel
theorem dX9_init_551 : decode cX9_init 551 = .ok (.newarray .boolean, 2) := by decide +kernel
theorem dX9_init_553 : decode cX9_init 553 = .ok (.putfield 88, 3) := by decide +kernel
theorem dX9_init_556 : decode cX9_init 556 = .ok (.aload_n 0, 1) := by decide +kernel
theorem dX9_init_557 : decode cX9_init 557 = .ok (.bipush 60, 2) := by decide +kernel
theorem dX9_init_559 : decode cX9_init 559 = .ok (.newarray .int, 2) := by decide +kernel
theorem dX9_init_561 : decode cX9_init 561 = .ok (.putfield 91, 3) := by decide +kernel
theorem dX9_init_564 : decode cX9_init 564 = .ok (.aload_n 0, 1) := by decide +kernel
theorem dX9_init_565 : decode cX9_init 565 = .ok (.bipush 60, 2) := by decide +kernel
theorem dX9_init_567 : decode cX9_init 567 = .ok (.newarray .int, 2) := by decide +kernel
theorem dX9_init_569 : decode cX9_init 569 = .ok (.putfield 94, 3) := by decide +kernel
theorem dX9_init_572 : decode cX9_init 572 = .ok (.aload_n 0, 1) := by decide +kernel
theorem dX9_init_573 : decode cX9_init 573 = .ok (.bipush 60, 2) := by decide +kernel
theorem dX9_init_575 : decode cX9_init 575 = .ok (.newarray .int, 2) := by decide +kernel
theorem dX9_init_577 : decode cX9_init 577 = .ok (.putfield 97, 3) := by decide +kernel
theorem dX9_init_580 : decode cX9_init 580 = .ok (.aload_n 0, 1) := by decide +kernel
theorem dX9_init_581 : decode cX9_init 581 = .ok (.bipush 60, 2) := by decide +kernel
theorem dX9_init_583 : decode cX9_init 583 = .ok (.newarray .int, 2) := by decide +kernel
theorem dX9_init_585 : decode cX9_init 585 = .ok (.putfield 100, 3) := by decide +kernel
theorem dX9_init_588 : decode cX9_init 588 = .ok (.aload_n 0, 1) := by decide +kernel
theorem dX9_init_589 : decode cX9_init 589 = .ok (.iconst 4, 1) := by decide +kernel
theorem dX9_init_590 : decode cX9_init 590 = .ok (.newarray .int, 2) := by decide +kernel
theorem dX9_init_592 : decode cX9_init 592 = .ok (.dup, 1) := by decide +kernel
theorem dX9_init_593 : decode cX9_init 593 = .ok (.iconst 0, 1) := by decide +kernel
theorem dX9_init_594 : decode cX9_init 594 = .ok (.iconst (-1), 1) := by decide +kernel
theorem dX9_init_595 : decode cX9_init 595 = .ok (.iastore, 1) := by decide +kernel
theorem dX9_init_596 : decode cX9_init 596 = .ok (.dup, 1) := by decide +kernel
theorem dX9_init_597 : decode cX9_init 597 = .ok (.iconst 1, 1) := by decide +kernel
theorem dX9_init_598 : decode cX9_init 598 = .ok (.iconst (-1), 1) := by decide +kernel
theorem dX9_init_599 : decode cX9_init 599 = .ok (.iastore, 1) := by decide +kernel
theorem dX9_init_600 : decode cX9_init 600 = .ok (.dup, 1) := by decide +kernel
theorem dX9_init_601 : decode cX9_init 601 = .ok (.iconst 2, 1) := by decide +kernel
theorem dX9_init_602 : decode cX9_init 602 = .ok (.iconst (-1), 1) := by decide +kernel
theorem dX9_init_603 : decode cX9_init 603 = .ok (.iastore, 1) := by decide +kernel
theorem dX9_init_604 : decode cX9_init 604 = .ok (.dup, 1) := by decide +kernel
theorem dX9_init_605 : decode cX9_init 605 = .ok (.iconst 3, 1) := by decide +kernel
theorem dX9_init_606 : decode cX9_init 606 = .ok (.iconst (-1), 1) := by decide +kernel
theorem dX9_init_607 : decode cX9_init 607 = .ok (.iastore, 1) := by decide +kernel
theorem dX9_init_608 : decode cX9_init 608 = .ok (.putfield 103, 3) := by decide +kernel
theorem dX9_init_611 : decode cX9_init 611 = .ok (.aload_n 0, 1) := by decide +kernel
theorem dX9_init_612 : decode cX9_init 612 = .ok (.iconst 4, 1) := by decide +kernel
theorem dX9_init_613 : decode cX9_init 613 = .ok (.newarray .int, 2) := by decide +kernel
theorem dX9_init_615 : decode cX9_init 615 = .ok (.putfield 106, 3) := by decide +kernel
theorem dX9_init_618 : decode cX9_init 618 = .ok (.aload_n 0, 1) := by decide +kernel
theorem dX9_init_619 : decode cX9_init 619 = .ok (.iconst 4, 1) := by decide +kernel
theorem dX9_init_620 : decode cX9_init 620 = .ok (.newarray .int, 2) := by decide +kernel
theorem dX9_init_622 : decode cX9_init 622 = .ok (.putfield 109, 3) := by decide +kernel
theorem dX9_init_625 : decode cX9_init 625 = .ok (.aload_n 0, 1) := by decide +kernel
theorem dX9_init_626 : decode cX9_init 626 = .ok (.iconst 4, 1) := by decide +kernel
theorem dX9_init_627 : decode cX9_init 627 = .ok (.newarray .int, 2) := by decide +kernel
theorem dX9_init_629 : decode cX9_init 629 = .ok (.putfield 112, 3) := by decide +kernel
theorem dX9_init_632 : decode cX9_init 632 = .ok (.aload_n 0, 1) := by decide +kernel
theorem dX9_init_633 : decode cX9_init 633 = .ok (.iconst 4, 1) := by decide +kernel
theorem dX9_init_634 : decode cX9_init 634 = .ok (.newarray .int, 2) := by decide +kernel
theorem dX9_init_636 : decode cX9_init 636 = .ok (.putfield 115, 3) := by decide +kernel
theorem dX9_init_639 : decode cX9_init 639 = .ok (.aload_n 0, 1) := by decide +kernel
theorem dX9_init_640 : decode cX9_init 640 = .ok (.iconst 4, 1) := by decide +kernel
theorem dX9_init_641 : decode cX9_init 641 = .ok (.newarray .int, 2) := by decide +kernel
theorem dX9_init_643 : decode cX9_init 643 = .ok (.putfield 118, 3) := by decide +kernel
theorem dX9_init_646 : decode cX9_init 646 = .ok (.aload_n 0, 1) := by decide +kernel
theorem dX9_init_647 : decode cX9_init 647 = .ok (.iconst 4, 1) := by decide +kernel
theorem dX9_init_648 : decode cX9_init 648 = .ok (.newarray .int, 2) := by decide +kernel
theorem dX9_init_650 : decode cX9_init 650 = .ok (.putfield 121, 3) := by decide +kernel
theorem dX9_init_653 : decode cX9_init 653 = .ok (.aload_n 0, 1) := by decide +kernel
theorem dX9_init_654 : decode cX9_init 654 = .ok (.iconst 4, 1) := by decide +kernel
theorem dX9_init_655 : decode cX9_init 655 = .ok (.newarray .int, 2) := by decide +kernel
theorem dX9_init_657 : decode cX9_init 657 = .ok (.putfield 124, 3) := by decide +kernel
theorem dX9_init_660 : decode cX9_init 660 = .ok (.aload_n 0, 1) := by decide +kernel
theorem dX9_init_661 : decode cX9_init 661 = .ok (.bipush 12, 2) := by decide +kernel
theorem dX9_init_663 : decode cX9_init 663 = .ok (.newarray .int, 2) := by decide +kernel
theorem dX9_init_665 : decode cX9_init 665 = .ok (.putfield 127, 3) := by decide +kernel
theorem dX9_init_668 : decode cX9_init 668 = .ok (.aload_n 0, 1) := by decide +kernel
theorem dX9_init_669 : decode cX9_init 669 = .ok (.bipush 12, 2) := by decide +kernel
theorem dX9_init_671 : decode cX9_init 671 = .ok (.newarray .int, 2) := by decide +kernel
theorem dX9_init_673 : decode cX9_init 673 = .ok (.putfield 130, 3) := by decide +kernel
theorem dX9_init_676 : decode cX9_init 676 = .ok (.aload_n 0, 1) := by decide +kernel
theorem dX9_init_677 : decode cX9_init 677 = .ok (.bipush 14, 2) := by decide +kernel
theorem dX9_init_679 : decode cX9_init 679 = .ok (.newarray .int, 2) := by decide +kernel
theorem dX9_init_681 : decode cX9_init 681 = .ok (.putfield 133, 3) := by decide +kernel
theorem dX9_init_684 : decode cX9_init 684 = .ok (.aload_n 0, 1) := by decide +kernel
theorem dX9_init_685 : decode cX9_init 685 = .ok (.ldc 136, 2) := by decide +kernel
theorem dX9_init_687 : decode cX9_init 687 = .ok (.newarray .boolean, 2) := by decide +kernel
theorem dX9_init_689 : decode cX9_init 689 = .ok (.putfield 137, 3) := by decide +kernel
theorem dX9_init_692 : decode cX9_init 692 = .ok (.return_, 1) := by decide +kernel
theorem dX9_isClient_0 : decode cX9_isClient 0 = .ok (.iload_n 1, 1) := by decide +kernel
theorem dX9_isClient_1 : decode cX9_isClient 1 = .ok (.ifCond .lt 12, 3) := by decide +kernel
theorem dX9_isClient_4 : decode cX9_isClient 4 = .ok (.iload_n 1, 1) := by decide +kernel
theorem dX9_isClient_5 : decode cX9_isClient 5 = .ok (.iconst 4, 1) := by decide +kernel
theorem dX9_isClient_6 : decode cX9_isClient 6 = .ok (.if_icmp .ge 7, 3) := by decide +kernel
theorem dX9_isClient_9 : decode cX9_isClient 9 = .ok (.iconst 1, 1) := by decide +kernel
theorem dX9_isClient_10 : decode cX9_isClient 10 = .ok (.goto 4, 3) := by decide +kernel
theorem dX9_isClient_13 : decode cX9_isClient 13 = .ok (.iconst 0, 1) := by decide +kernel
theorem dX9_isClient_14 : decode cX9_isClient 14 = .ok (.ireturn, 1) := by decide +kernel
theorem dX9_isRegister_0 : decode cX9_isRegister 0 = .ok (.iload_n 1, 1) := by decide +kernel
theorem dX9_isRegister_1 : decode cX9_isRegister 1 = .ok (.ifCond .lt 12, 3) := by decide +kernel
theorem dX9_isRegister_4 : decode cX9_isRegister 4 = .ok (.iload_n 1, 1) := by decide +kernel
theorem dX9_isRegister_5 : decode cX9_isRegister 5 = .ok (.iconst 3, 1) := by decide +kernel
theorem dX9_isRegister_6 : decode cX9_isRegister 6 = .ok (.if_icmp .ge 7, 3) := by decide +kernel
theorem dX9_isRegister_9 : decode cX9_isRegister 9 = .ok (.iconst 1, 1) := by decide +kernel
theorem dX9_isRegister_10 : decode cX9_isRegister 10 = .ok (.goto 4, 3) := by decide +kernel
theorem dX9_isRegister_13 : decode cX9_isRegister 13 = .ok (.iconst 0, 1) := by decide +kernel
theorem dX9_isRegister_14 : decode cX9_isRegister 14 = .ok (.ireturn, 1) := by decide +kernel
theorem dX9_isSet_0 : decode cX9_isSet 0 = .ok (.iload_n 1, 1) := by decide +kernel
theorem dX9_isSet_1 : decode cX9_isSet 1 = .ok (.ifCond .le 17, 3) := by decide +kernel
theorem dX9_isSet_4 : decode cX9_isSet 4 = .ok (.iload_n 1, 1) := by decide +kernel
theorem dX9_isSet_5 : decode cX9_isSet 5 = .ok (.iconst 1, 1) := by decide +kernel
theorem dX9_isSet_6 : decode cX9_isSet 6 = .ok (.aload_n 0, 1) := by decide +kernel
theorem dX9_isSet_7 : decode cX9_isSet 7 = .ok (.getfield 7, 3) := by decide +kernel
theorem dX9_isSet_10 : decode cX9_isSet 10 = .ok (.ishl, 1) := by decide +kernel
theorem dX9_isSet_11 : decode cX9_isSet 11 = .ok (.if_icmp .ge 7, 3) := by decide +kernel
theorem dX9_isSet_14 : decode cX9_isSet 14 = .ok (.iconst 1, 1) := by decide +kernel
theorem dX9_isSet_15 : decode cX9_isSet 15 = .ok (.goto 4, 3) := by decide +kernel
theorem dX9_isSet_18 : decode cX9_isSet 18 = .ok (.iconst 0, 1) := by decide +kernel
theorem dX9_isSet_19 : decode cX9_isSet 19 = .ok (.ireturn, 1) := by decide +kernel
theorem dX9_begin_0 : decode cX9_begin 0 = .ok (.aload_n 0, 1) := by decide +kernel
theorem dX9_begin_1 : decode cX9_begin 1 = .ok (.iconst 0, 1) := by decide +kernel
theorem dX9_begin_2 : decode cX9_begin 2 = .ok (.putfield 140, 3) := by decide +kernel
theorem dX9_begin_5 : decode cX9_begin 5 = .ok (.iload_n 1, 1) := by decide +kernel
theorem dX9_begin_6 : decode cX9_begin 6 = .ok (.iconst 3, 1) := by decide +kernel
theorem dX9_begin_7 : decode cX9_begin 7 = .ok (.if_icmp .lt 20, 3) := by decide +kernel
theorem dX9_begin_10 : decode cX9_begin 10 = .ok (.iload_n 1, 1) := by decide +kernel
theorem dX9_begin_11 : decode cX9_begin 11 = .ok (.bipush 7, 2) := by decide +kernel
theorem dX9_begin_13 : decode cX9_begin 13 = .ok (.if_icmp .gt 14, 3) := by decide +kernel
theorem dX9_begin_16 : decode cX9_begin 16 = .ok (.iload_n 2, 1) := by decide +kernel
theorem dX9_begin_17 : decode cX9_begin 17 = .ok (.ifCond .le 10, 3) := by decide +kernel
theorem dX9_begin_20 : decode cX9_begin 20 = .ok (.iload_n 2, 1) := by decide +kernel
theorem dX9_begin_21 : decode cX9_begin 21 = .ok (.iconst 1, 1) := by decide +kernel
theorem dX9_begin_22 : decode cX9_begin 22 = .ok (.iload_n 1, 1) := by decide +kernel
theorem dX9_begin_23 : decode cX9_begin 23 = .ok (.ishl, 1) := by decide +kernel
theorem dX9_begin_24 : decode cX9_begin 24 = .ok (.if_icmp .lt 5, 3) := by decide +kernel
theorem dX9_begin_27 : decode cX9_begin 27 = .ok (.iconst 0, 1) := by decide +kernel
theorem dX9_begin_28 : decode cX9_begin 28 = .ok (.ireturn, 1) := by decide +kernel
theorem dX9_begin_29 : decode cX9_begin 29 = .ok (.aload_n 0, 1) := by decide +kernel
theorem dX9_begin_30 : decode cX9_begin 30 = .ok (.iload_n 1, 1) := by decide +kernel
theorem dX9_begin_31 : decode cX9_begin 31 = .ok (.putfield 7, 3) := by decide +kernel
theorem dX9_begin_34 : decode cX9_begin 34 = .ok (.iconst 0, 1) := by decide +kernel
theorem dX9_begin_35 : decode cX9_begin 35 = .ok (.istore_n 3, 1) := by decide +kernel
theorem dX9_begin_36 : decode cX9_begin 36 = .ok (.iload_n 3, 1) := by decide +kernel
theorem dX9_begin_37 : decode cX9_begin 37 = .ok (.bipush 66, 2) := by decide +kernel
theorem dX9_begin_39 : decode cX9_begin 39 = .ok (.if_icmp .ge 27, 3) := by decide +kernel
theorem dX9_begin_42 : decode cX9_begin 42 = .ok (.aload_n 0, 1) := by decide +kernel
theorem dX9_begin_43 : decode cX9_begin 43 = .ok (.getfield 13, 3) := by decide +kernel
theorem dX9_begin_46 : decode cX9_begin 46 = .ok (.iload_n 3, 1) := by decide +kernel
theorem dX9_begin_47 : decode cX9_begin 47 = .ok (.iload_n 3, 1) := by decide +kernel
theorem dX9_begin_48 : decode cX9_begin 48 = .ok (.bipush 6, 2) := by decide +kernel
theorem dX9_begin_50 : decode cX9_begin 50 = .ok (.irem, 1) := by decide +kernel
theorem dX9_begin_51 : decode cX9_begin 51 = .ok (.ifCond .ne 7, 3) := by decide +kernel
theorem dX9_begin_54 : decode cX9_begin 54 = .ok (.iload_n 2, 1) := by decide +kernel
theorem dX9_begin_55 : decode cX9_begin 55 = .ok (.goto 4, 3) := by decide +kernel
theorem dX9_begin_58 : decode cX9_begin 58 = .ok (.iconst 0, 1) := by decide +kernel
theorem dX9_begin_59 : decode cX9_begin 59 = .ok (.iastore, 1) := by decide +kernel
theorem dX9_begin_60 : decode cX9_begin 60 = .ok (.iinc 3 1, 3) := by decide +kernel
theorem dX9_begin_63 : decode cX9_begin 63 = .ok (.goto (-27), 3) := by decide +kernel
theorem dX9_begin_66 : decode cX9_begin 66 = .ok (.iconst 0, 1) := by decide +kernel
theorem dX9_begin_67 : decode cX9_begin 67 = .ok (.istore_n 3, 1) := by decide +kernel
theorem dX9_begin_68 : decode cX9_begin 68 = .ok (.iload_n 3, 1) := by decide +kernel
theorem dX9_begin_69 : decode cX9_begin 69 = .ok (.bipush 11, 2) := by decide +kernel
theorem dX9_begin_71 : decode cX9_begin 71 = .ok (.if_icmp .ge 16, 3) := by decide +kernel
theorem dX9_begin_74 : decode cX9_begin 74 = .ok (.aload_n 0, 1) := by decide +kernel
theorem dX9_begin_75 : decode cX9_begin 75 = .ok (.getfield 17, 3) := by decide +kernel
theorem dX9_begin_78 : decode cX9_begin 78 = .ok (.iload_n 3, 1) := by decide +kernel
theorem dX9_begin_79 : decode cX9_begin 79 = .ok (.iconst 0, 1) := by decide +kernel
theorem dX9_begin_80 : decode cX9_begin 80 = .ok (.bastore, 1) := by decide +kernel
theorem dX9_begin_81 : decode cX9_begin 81 = .ok (.iinc 3 1, 3) := by decide +kernel
theorem dX9_begin_84 : decode cX9_begin 84 = .ok (.goto (-16), 3) := by decide +kernel
theorem dX9_begin_87 : decode cX9_begin 87 = .ok (.iconst 0, 1) := by decide +kernel
theorem dX9_begin_88 : decode cX9_begin 88 = .ok (.istore_n 3, 1) := by decide +kernel
theorem dX9_begin_89 : decode cX9_begin 89 = .ok (.iload_n 3, 1) := by decide +kernel
theorem dX9_begin_90 : decode cX9_begin 90 = .ok (.bipush 21, 2) := by decide +kernel
theorem dX9_begin_92 : decode cX9_begin 92 = .ok (.if_icmp .ge 23, 3) := by decide +kernel
theorem dX9_begin_95 : decode cX9_begin 95 = .ok (.aload_n 0, 1) := by decide +kernel
theorem dX9_begin_96 : decode cX9_begin 96 = .ok (.getfield 21, 3) := by decide +kernel
theorem dX9_begin_99 : decode cX9_begin 99 = .ok (.iload_n 3, 1) := by decide +kernel
theorem dX9_begin_100 : decode cX9_begin 100 = .ok (.iconst 0, 1) := by decide +kernel
theorem dX9_begin_101 : decode cX9_begin 101 = .ok (.iastore, 1) := by decide +kernel
theorem dX9_begin_102 : decode cX9_begin 102 = .ok (.aload_n 0, 1) := by decide +kernel
theorem dX9_begin_103 : decode cX9_begin 103 = .ok (.getfield 24, 3) := by decide +kernel
theorem dX9_begin_106 : decode cX9_begin 106 = .ok (.iload_n 3, 1) := by decide +kernel
theorem dX9_begin_107 : decode cX9_begin 107 = .ok (.iconst 0, 1) := by decide +kernel
theorem dX9_begin_108 : decode cX9_begin 108 = .ok (.iastore, 1) := by decide +kernel
theorem dX9_begin_109 : decode cX9_begin 109 = .ok (.iinc 3 1, 3) := by decide +kernel
theorem dX9_begin_112 : decode cX9_begin 112 = .ok (.goto (-23), 3) := by decide +kernel
theorem dX9_begin_115 : decode cX9_begin 115 = .ok (.iconst 0, 1) := by decide +kernel
theorem dX9_begin_116 : decode cX9_begin 116 = .ok (.istore_n 3, 1) := by decide +kernel
theorem dX9_begin_117 : decode cX9_begin 117 = .ok (.iload_n 3, 1) := by decide +kernel
theorem dX9_begin_118 : decode cX9_begin 118 = .ok (.bipush 35, 2) := by decide +kernel
theorem dX9_begin_120 : decode cX9_begin 120 = .ok (.if_icmp .ge 30, 3) := by decide +kernel
theorem dX9_begin_123 : decode cX9_begin 123 = .ok (.aload_n 0, 1) := by decide +kernel
theorem dX9_begin_124 : decode cX9_begin 124 = .ok (.getfield 27, 3) := by decide +kernel
theorem dX9_begin_127 : decode cX9_begin 127 = .ok (.iload_n 3, 1) := by decide +kernel
theorem dX9_begin_128 : decode cX9_begin 128 = .ok (.iconst 0, 1) := by decide +kernel
theorem dX9_begin_129 : decode cX9_begin 129 = .ok (.iastore, 1) := by decide +kernel
theorem dX9_begin_130 : decode cX9_begin 130 = .ok (.aload_n 0, 1) := by decide +kernel
theorem dX9_begin_131 : decode cX9_begin 131 = .ok (.getfield 30, 3) := by decide +kernel
theorem dX9_begin_134 : decode cX9_begin 134 = .ok (.iload_n 3, 1) := by decide +kernel
theorem dX9_begin_135 : decode cX9_begin 135 = .ok (.iconst 0, 1) := by decide +kernel
theorem dX9_begin_136 : decode cX9_begin 136 = .ok (.iastore, 1) := by decide +kernel
theorem dX9_begin_137 : decode cX9_begin 137 = .ok (.aload_n 0, 1) := by decide +kernel
theorem dX9_begin_138 : decode cX9_begin 138 = .ok (.getfield 33, 3) := by decide +kernel
theorem dX9_begin_141 : decode cX9_begin 141 = .ok (.iload_n 3, 1) := by decide +kernel
theorem dX9_begin_142 : decode cX9_begin 142 = .ok (.iconst 0, 1) := by decide +kernel
theorem dX9_begin_143 : decode cX9_begin 143 = .ok (.iastore, 1) := by decide +kernel
theorem dX9_begin_144 : decode cX9_begin 144 = .ok (.iinc 3 1, 3) := by decide +kernel
theorem dX9_begin_147 : decode cX9_begin 147 = .ok (.goto (-30), 3) := by decide +kernel
theorem dX9_begin_150 : decode cX9_begin 150 = .ok (.aload_n 0, 1) := by decide +kernel
theorem dX9_begin_151 : decode cX9_begin 151 = .ok (.iconst 0, 1) := by decide +kernel
theorem dX9_begin_152 : decode cX9_begin 152 = .ok (.putfield 143, 3) := by decide +kernel
theorem dX9_begin_155 : decode cX9_begin 155 = .ok (.aload_n 0, 1) := by decide +kernel
theorem dX9_begin_156 : decode cX9_begin 156 = .ok (.iconst 0, 1) := by decide +kernel
theorem dX9_begin_157 : decode cX9_begin 157 = .ok (.putfield 146, 3) := by decide +kernel
theorem dX9_begin_160 : decode cX9_begin 160 = .ok (.aload_n 0, 1) := by decide +kernel
theorem dX9_begin_161 : decode cX9_begin 161 = .ok (.iconst 0, 1) := by decide +kernel
theorem dX9_begin_162 : decode cX9_begin 162 = .ok (.putfield 149, 3) := by decide +kernel
theorem dX9_begin_165 : decode cX9_begin 165 = .ok (.aload_n 0, 1) := by decide +kernel
theorem dX9_begin_166 : decode cX9_begin 166 = .ok (.iconst 0, 1) := by decide +kernel
theorem dX9_begin_167 : decode cX9_begin 167 = .ok (.putfield 152, 3) := by decide +kernel
theorem dX9_begin_170 : decode cX9_begin 170 = .ok (.aload_n 0, 1) := by decide +kernel
theorem dX9_begin_171 : decode cX9_begin 171 = .ok (.iconst 0, 1) := by decide +kernel
theorem dX9_begin_172 : decode cX9_begin 172 = .ok (.putfield 155, 3) := by decide +kernel
theorem dX9_begin_175 : decode cX9_begin 175 = .ok (.aload_n 0, 1) := by decide +kernel
theorem dX9_begin_176 : decode cX9_begin 176 = .ok (.iconst 0, 1) := by decide +kernel
theorem dX9_begin_177 : decode cX9_begin 177 = .ok (.putfield 158, 3) := by decide +kernel
theorem dX9_begin_180 : decode cX9_begin 180 = .ok (.iconst 0, 1) := by decide +kernel
theorem dX9_begin_181 : decode cX9_begin 181 = .ok (.istore_n 3, 1) := by decide +kernel
theorem dX9_begin_182 : decode cX9_begin 182 = .ok (.iload_n 3, 1) := by decide +kernel
theorem dX9_begin_183 : decode cX9_begin 183 = .ok (.iconst 4, 1) := by decide +kernel
theorem dX9_begin_184 : decode cX9_begin 184 = .ok (.if_icmp .ge 51, 3) := by decide +kernel
theorem dX9_begin_187 : decode cX9_begin 187 = .ok (.aload_n 0, 1) := by decide +kernel
theorem dX9_begin_188 : decode cX9_begin 188 = .ok (.getfield 103, 3) := by decide +kernel
theorem dX9_begin_191 : decode cX9_begin 191 = .ok (.iload_n 3, 1) := by decide +kernel
theorem dX9_begin_192 : decode cX9_begin 192 = .ok (.iconst (-1), 1) := by decide +kernel
theorem dX9_begin_193 : decode cX9_begin 193 = .ok (.iastore, 1) := by decide +kernel
theorem dX9_begin_194 : decode cX9_begin 194 = .ok (.aload_n 0, 1) := by decide +kernel
theorem dX9_begin_195 : decode cX9_begin 195 = .ok (.getfield 106, 3) := by decide +kernel
theorem dX9_begin_198 : decode cX9_begin 198 = .ok (.iload_n 3, 1) := by decide +kernel
theorem dX9_begin_199 : decode cX9_begin 199 = .ok (.iconst 0, 1) := by decide +kernel
theorem dX9_begin_200 : decode cX9_begin 200 = .ok (.iastore, 1) := by decide +kernel
theorem dX9_begin_201 : decode cX9_begin 201 = .ok (.aload_n 0, 1) := by decide +kernel
theorem dX9_begin_202 : decode cX9_begin 202 = .ok (.getfield 115, 3) := by decide +kernel
theorem dX9_begin_205 : decode cX9_begin 205 = .ok (.iload_n 3, 1) := by decide +kernel
theorem dX9_begin_206 : decode cX9_begin 206 = .ok (.iconst 0, 1) := by decide +kernel
theorem dX9_begin_207 : decode cX9_begin 207 = .ok (.iastore, 1) := by decide +kernel
theorem dX9_begin_208 : decode cX9_begin 208 = .ok (.aload_n 0, 1) := by decide +kernel
theorem dX9_begin_209 : decode cX9_begin 209 = .ok (.getfield 118, 3) := by decide +kernel
theorem dX9_begin_212 : decode cX9_begin 212 = .ok (.iload_n 3, 1) := by decide +kernel
theorem dX9_begin_213 : decode cX9_begin 213 = .ok (.iconst 0, 1) := by decide +kernel
theorem dX9_begin_214 : decode cX9_begin 214 = .ok (.iastore, 1) := by decide +kernel
theorem dX9_begin_215 : decode cX9_begin 215 = .ok (.aload_n 0, 1) := by decide +kernel
theorem dX9_begin_216 : decode cX9_begin 216 = .ok (.getfield 109, 3) := by decide +kernel
theorem dX9_begin_219 : decode cX9_begin 219 = .ok (.iload_n 3, 1) := by decide +kernel
theorem dX9_begin_220 : decode cX9_begin 220 = .ok (.iconst 0, 1) := by decide +kernel
theorem dX9_begin_221 : decode cX9_begin 221 = .ok (.iastore, 1) := by decide +kernel
theorem dX9_begin_222 : decode cX9_begin 222 = .ok (.aload_n 0, 1) := by decide +kernel
theorem dX9_begin_223 : decode cX9_begin 223 = .ok (.getfield 112, 3) := by decide +kernel
theorem dX9_begin_226 : decode cX9_begin 226 = .ok (.iload_n 3, 1) := by decide +kernel
theorem dX9_begin_227 : decode cX9_begin 227 = .ok (.iconst 0, 1) := by decide +kernel
theorem dX9_begin_228 : decode cX9_begin 228 = .ok (.iastore, 1) := by decide +kernel
theorem dX9_begin_229 : decode cX9_begin 229 = .ok (.iinc 3 1, 3) := by decide +kernel
theorem dX9_begin_232 : decode cX9_begin 232 = .ok (.goto (-50), 3) := by decide +kernel
theorem dX9_begin_235 : decode cX9_begin 235 = .ok (.iconst 1, 1) := by decide +kernel
theorem dX9_begin_236 : decode cX9_begin 236 = .ok (.ireturn, 1) := by decide +kernel
theorem dX9_lay_0 : decode cX9_lay 0 = .ok (.aload_n 0, 1) := by decide +kernel
theorem dX9_lay_1 : decode cX9_lay 1 = .ok (.getfield 143, 3) := by decide +kernel
theorem dX9_lay_4 : decode cX9_lay 4 = .ok (.istore 7, 2) := by decide +kernel
theorem dX9_lay_6 : decode cX9_lay 6 = .ok (.aload_n 0, 1) := by decide +kernel
theorem dX9_lay_7 : decode cX9_lay 7 = .ok (.getfield 36, 3) := by decide +kernel
theorem dX9_lay_10 : decode cX9_lay 10 = .ok (.iload 7, 2) := by decide +kernel
theorem dX9_lay_12 : decode cX9_lay 12 = .ok (.iload_n 1, 1) := by decide +kernel
theorem dX9_lay_13 : decode cX9_lay 13 = .ok (.iastore, 1) := by decide +kernel
theorem dX9_lay_14 : decode cX9_lay 14 = .ok (.aload_n 0, 1) := by decide +kernel
theorem dX9_lay_15 : decode cX9_lay 15 = .ok (.getfield 39, 3) := by decide +kernel
theorem dX9_lay_18 : decode cX9_lay 18 = .ok (.iload 7, 2) := by decide +kernel
theorem dX9_lay_20 : decode cX9_lay 20 = .ok (.iload_n 2, 1) := by decide +kernel
theorem dX9_lay_21 : decode cX9_lay 21 = .ok (.iastore, 1) := by decide +kernel
theorem dX9_lay_22 : decode cX9_lay 22 = .ok (.aload_n 0, 1) := by decide +kernel
theorem dX9_lay_23 : decode cX9_lay 23 = .ok (.getfield 42, 3) := by decide +kernel
theorem dX9_lay_26 : decode cX9_lay 26 = .ok (.iload 7, 2) := by decide +kernel
theorem dX9_lay_28 : decode cX9_lay 28 = .ok (.iload_n 3, 1) := by decide +kernel
theorem dX9_lay_29 : decode cX9_lay 29 = .ok (.iastore, 1) := by decide +kernel
theorem dX9_lay_30 : decode cX9_lay 30 = .ok (.aload_n 0, 1) := by decide +kernel
theorem dX9_lay_31 : decode cX9_lay 31 = .ok (.getfield 45, 3) := by decide +kernel
theorem dX9_lay_34 : decode cX9_lay 34 = .ok (.iload 7, 2) := by decide +kernel
theorem dX9_lay_36 : decode cX9_lay 36 = .ok (.iload 4, 2) := by decide +kernel
theorem dX9_lay_38 : decode cX9_lay 38 = .ok (.iastore, 1) := by decide +kernel
theorem dX9_lay_39 : decode cX9_lay 39 = .ok (.aload_n 0, 1) := by decide +kernel
theorem dX9_lay_40 : decode cX9_lay 40 = .ok (.getfield 48, 3) := by decide +kernel
theorem dX9_lay_43 : decode cX9_lay 43 = .ok (.iload 7, 2) := by decide +kernel
theorem dX9_lay_45 : decode cX9_lay 45 = .ok (.iload 5, 2) := by decide +kernel
theorem dX9_lay_47 : decode cX9_lay 47 = .ok (.iastore, 1) := by decide +kernel
theorem dX9_lay_48 : decode cX9_lay 48 = .ok (.aload_n 0, 1) := by decide +kernel
theorem dX9_lay_49 : decode cX9_lay 49 = .ok (.getfield 51, 3) := by decide +kernel
theorem dX9_lay_52 : decode cX9_lay 52 = .ok (.iload 7, 2) := by decide +kernel
theorem dX9_lay_54 : decode cX9_lay 54 = .ok (.iconst 0, 1) := by decide +kernel
theorem dX9_lay_55 : decode cX9_lay 55 = .ok (.iastore, 1) := by decide +kernel
theorem dX9_lay_56 : decode cX9_lay 56 = .ok (.aload_n 0, 1) := by decide +kernel
theorem dX9_lay_57 : decode cX9_lay 57 = .ok (.getfield 54, 3) := by decide +kernel
theorem dX9_lay_60 : decode cX9_lay 60 = .ok (.iload 7, 2) := by decide +kernel
theorem dX9_lay_62 : decode cX9_lay 62 = .ok (.iconst 0, 1) := by decide +kernel
theorem dX9_lay_63 : decode cX9_lay 63 = .ok (.iastore, 1) := by decide +kernel
theorem dX9_lay_64 : decode cX9_lay 64 = .ok (.aload_n 0, 1) := by decide +kernel
theorem dX9_lay_65 : decode cX9_lay 65 = .ok (.getfield 57, 3) := by decide +kernel
theorem dX9_lay_68 : decode cX9_lay 68 = .ok (.iload 7, 2) := by decide +kernel
theorem dX9_lay_70 : decode cX9_lay 70 = .ok (.iconst 0, 1) := by decide +kernel
theorem dX9_lay_71 : decode cX9_lay 71 = .ok (.iastore, 1) := by decide +kernel
theorem dX9_lay_72 : decode cX9_lay 72 = .ok (.aload_n 0, 1) := by decide +kernel
theorem dX9_lay_73 : decode cX9_lay 73 = .ok (.getfield 60, 3) := by decide +kernel
theorem dX9_lay_76 : decode cX9_lay 76 = .ok (.iload 7, 2) := by decide +kernel
theorem dX9_lay_78 : decode cX9_lay 78 = .ok (.iconst 0, 1) := by decide +kernel
theorem dX9_lay_79 : decode cX9_lay 79 = .ok (.iastore, 1) := by decide +kernel
theorem dX9_lay_80 : decode cX9_lay 80 = .ok (.aload_n 0, 1) := by decide +kernel
theorem dX9_lay_81 : decode cX9_lay 81 = .ok (.getfield 63, 3) := by decide +kernel
theorem dX9_lay_84 : decode cX9_lay 84 = .ok (.iload 7, 2) := by decide +kernel
theorem dX9_lay_86 : decode cX9_lay 86 = .ok (.iconst 0, 1) := by decide +kernel
theorem dX9_lay_87 : decode cX9_lay 87 = .ok (.iastore, 1) := by decide +kernel
theorem dX9_lay_88 : decode cX9_lay 88 = .ok (.aload_n 0, 1) := by decide +kernel
theorem dX9_lay_89 : decode cX9_lay 89 = .ok (.getfield 66, 3) := by decide +kernel
theorem dX9_lay_92 : decode cX9_lay 92 = .ok (.iload 7, 2) := by decide +kernel
theorem dX9_lay_94 : decode cX9_lay 94 = .ok (.iconst 0, 1) := by decide +kernel
theorem dX9_lay_95 : decode cX9_lay 95 = .ok (.iastore, 1) := by decide +kernel
theorem dX9_lay_96 : decode cX9_lay 96 = .ok (.aload_n 0, 1) := by decide +kernel
theorem dX9_lay_97 : decode cX9_lay 97 = .ok (.getfield 69, 3) := by decide +kernel
theorem dX9_lay_100 : decode cX9_lay 100 = .ok (.iload 7, 2) := by decide +kernel
theorem dX9_lay_102 : decode cX9_lay 102 = .ok (.iconst 0, 1) := by decide +kernel
theorem dX9_lay_103 : decode cX9_lay 103 = .ok (.bastore, 1) := by decide +kernel
theorem dX9_lay_104 : decode cX9_lay 104 = .ok (.iconst 0, 1) := by decide +kernel
theorem dX9_lay_105 : decode cX9_lay 105 = .ok (.istore 8, 2) := by decide +kernel
theorem dX9_lay_107 : decode cX9_lay 107 = .ok (.iload 8, 2) := by decide +kernel
theorem dX9_lay_109 : decode cX9_lay 109 = .ok (.bipush 6, 2) := by decide +kernel
theorem dX9_lay_111 : decode cX9_lay 111 = .ok (.if_icmp .ge 35, 3) := by decide +kernel
theorem dX9_lay_114 : decode cX9_lay 114 = .ok (.aload_n 0, 1) := by decide +kernel
theorem dX9_lay_115 : decode cX9_lay 115 = .ok (.getfield 73, 3) := by decide +kernel
theorem dX9_lay_118 : decode cX9_lay 118 = .ok (.bipush 6, 2) := by decide +kernel
theorem dX9_lay_120 : decode cX9_lay 120 = .ok (.iload 7, 2) := by decide +kernel
theorem dX9_lay_122 : decode cX9_lay 122 = .ok (.imul, 1) := by decide +kernel
