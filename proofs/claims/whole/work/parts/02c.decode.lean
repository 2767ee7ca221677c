theorem dX6_init_0 : decode cX6_init 0 = .ok (.aload_n 0, 1) := by decide +kernel
theorem dX6_init_1 : decode cX6_init 1 = .ok (.invokespecial 1, 3) := by decide +kernel
theorem dX6_init_4 : decode cX6_init 4 = .ok (.aload_n 0, 1) := by decide +kernel
theorem dX6_init_5 : decode cX6_init 5 = .ok (.sipush 180, 3) := by decide +kernel
theorem dX6_init_8 : decode cX6_init 8 = .ok (.newarray .int, 2) := by decide +kernel
theorem dX6_init_10 : decode cX6_init 10 = .ok (.putfield 7, 3) := by decide +kernel
theorem dX6_init_13 : decode cX6_init 13 = .ok (.aload_n 0, 1) := by decide +kernel
theorem dX6_init_14 : decode cX6_init 14 = .ok (.bipush 9, 2) := by decide +kernel
theorem dX6_init_16 : decode cX6_init 16 = .ok (.newarray .int, 2) := by decide +kernel
theorem dX6_init_18 : decode cX6_init 18 = .ok (.dup, 1) := by decide +kernel
theorem dX6_init_19 : decode cX6_init 19 = .ok (.iconst 0, 1) := by decide +kernel
theorem dX6_init_20 : decode cX6_init 20 = .ok (.iconst 3, 1) := by decide +kernel
theorem dX6_init_21 : decode cX6_init 21 = .ok (.iastore, 1) := by decide +kernel
theorem dX6_init_22 : decode cX6_init 22 = .ok (.dup, 1) := by decide +kernel
theorem dX6_init_23 : decode cX6_init 23 = .ok (.iconst 1, 1) := by decide +kernel
theorem dX6_init_24 : decode cX6_init 24 = .ok (.iconst 1, 1) := by decide +kernel
theorem dX6_init_25 : decode cX6_init 25 = .ok (.iastore, 1) := by decide +kernel
theorem dX6_init_26 : decode cX6_init 26 = .ok (.dup, 1) := by decide +kernel
theorem dX6_init_27 : decode cX6_init 27 = .ok (.iconst 2, 1) := by decide +kernel
theorem dX6_init_28 : decode cX6_init 28 = .ok (.bipush 60, 2) := by decide +kernel
theorem dX6_init_30 : decode cX6_init 30 = .ok (.iastore, 1) := by decide +kernel
theorem dX6_init_31 : decode cX6_init 31 = .ok (.dup, 1) := by decide +kernel
theorem dX6_init_32 : decode cX6_init 32 = .ok (.iconst 3, 1) := by decide +kernel
theorem dX6_init_33 : decode cX6_init 33 = .ok (.iconst 5, 1) := by decide +kernel
theorem dX6_init_34 : decode cX6_init 34 = .ok (.iastore, 1) := by decide +kernel
theorem dX6_init_35 : decode cX6_init 35 = .ok (.dup, 1) := by decide +kernel
theorem dX6_init_36 : decode cX6_init 36 = .ok (.iconst 4, 1) := by decide +kernel
theorem dX6_init_37 : decode cX6_init 37 = .ok (.iconst 2, 1) := by decide +kernel
theorem dX6_init_38 : decode cX6_init 38 = .ok (.iastore, 1) := by decide +kernel
theorem dX6_init_39 : decode cX6_init 39 = .ok (.dup, 1) := by decide +kernel
theorem dX6_init_40 : decode cX6_init 40 = .ok (.iconst 5, 1) := by decide +kernel
theorem dX6_init_41 : decode cX6_init 41 = .ok (.iconst 1, 1) := by decide +kernel
theorem dX6_init_42 : decode cX6_init 42 = .ok (.iastore, 1) := by decide +kernel
theorem dX6_init_43 : decode cX6_init 43 = .ok (.dup, 1) := by decide +kernel
theorem dX6_init_44 : decode cX6_init 44 = .ok (.bipush 6, 2) := by decide +kernel
theorem dX6_init_46 : decode cX6_init 46 = .ok (.bipush 80, 2) := by decide +kernel
theorem dX6_init_48 : decode cX6_init 48 = .ok (.iastore, 1) := by decide +kernel
theorem dX6_init_49 : decode cX6_init 49 = .ok (.dup, 1) := by decide +kernel
theorem dX6_init_50 : decode cX6_init 50 = .ok (.bipush 7, 2) := by decide +kernel
theorem dX6_init_52 : decode cX6_init 52 = .ok (.bipush 30, 2) := by decide +kernel
theorem dX6_init_54 : decode cX6_init 54 = .ok (.iastore, 1) := by decide +kernel
theorem dX6_init_55 : decode cX6_init 55 = .ok (.dup, 1) := by decide +kernel
theorem dX6_init_56 : decode cX6_init 56 = .ok (.bipush 8, 2) := by decide +kernel
theorem dX6_init_58 : decode cX6_init 58 = .ok (.iconst 4, 1) := by decide +kernel
theorem dX6_init_59 : decode cX6_init 59 = .ok (.iastore, 1) := by decide +kernel
theorem dX6_init_60 : decode cX6_init 60 = .ok (.putfield 13, 3) := by decide +kernel
theorem dX6_init_63 : decode cX6_init 63 = .ok (.aload_n 0, 1) := by decide +kernel
theorem dX6_init_64 : decode cX6_init 64 = .ok (.bipush 9, 2) := by decide +kernel
theorem dX6_init_66 : decode cX6_init 66 = .ok (.newarray .int, 2) := by decide +kernel
theorem dX6_init_68 : decode cX6_init 68 = .ok (.dup, 1) := by decide +kernel
theorem dX6_init_69 : decode cX6_init 69 = .ok (.iconst 0, 1) := by decide +kernel
theorem dX6_init_70 : decode cX6_init 70 = .ok (.iconst 3, 1) := by decide +kernel
theorem dX6_init_71 : decode cX6_init 71 = .ok (.iastore, 1) := by decide +kernel
theorem dX6_init_72 : decode cX6_init 72 = .ok (.dup, 1) := by decide +kernel
theorem dX6_init_73 : decode cX6_init 73 = .ok (.iconst 1, 1) := by decide +kernel
theorem dX6_init_74 : decode cX6_init 74 = .ok (.iconst 1, 1) := by decide +kernel
theorem dX6_init_75 : decode cX6_init 75 = .ok (.iastore, 1) := by decide +kernel
theorem dX6_init_76 : decode cX6_init 76 = .ok (.dup, 1) := by decide +kernel
theorem dX6_init_77 : decode cX6_init 77 = .ok (.iconst 2, 1) := by decide +kernel
theorem dX6_init_78 : decode cX6_init 78 = .ok (.bipush 60, 2) := by decide +kernel
theorem dX6_init_80 : decode cX6_init 80 = .ok (.iastore, 1) := by decide +kernel
theorem dX6_init_81 : decode cX6_init 81 = .ok (.dup, 1) := by decide +kernel
theorem dX6_init_82 : decode cX6_init 82 = .ok (.iconst 3, 1) := by decide +kernel
theorem dX6_init_83 : decode cX6_init 83 = .ok (.iconst 5, 1) := by decide +kernel
theorem dX6_init_84 : decode cX6_init 84 = .ok (.iastore, 1) := by decide +kernel
theorem dX6_init_85 : decode cX6_init 85 = .ok (.dup, 1) := by decide +kernel
theorem dX6_init_86 : decode cX6_init 86 = .ok (.iconst 4, 1) := by decide +kernel
theorem dX6_init_87 : decode cX6_init 87 = .ok (.iconst 2, 1) := by decide +kernel
theorem dX6_init_88 : decode cX6_init 88 = .ok (.iastore, 1) := by decide +kernel
theorem dX6_init_89 : decode cX6_init 89 = .ok (.dup, 1) := by decide +kernel
theorem dX6_init_90 : decode cX6_init 90 = .ok (.iconst 5, 1) := by decide +kernel
theorem dX6_init_91 : decode cX6_init 91 = .ok (.iconst 1, 1) := by decide +kernel
theorem dX6_init_92 : decode cX6_init 92 = .ok (.iastore, 1) := by decide +kernel
theorem dX6_init_93 : decode cX6_init 93 = .ok (.dup, 1) := by decide +kernel
theorem dX6_init_94 : decode cX6_init 94 = .ok (.bipush 6, 2) := by decide +kernel
theorem dX6_init_96 : decode cX6_init 96 = .ok (.bipush 80, 2) := by decide +kernel
theorem dX6_init_98 : decode cX6_init 98 = .ok (.iastore, 1) := by decide +kernel
theorem dX6_init_99 : decode cX6_init 99 = .ok (.dup, 1) := by decide +kernel
theorem dX6_init_100 : decode cX6_init 100 = .ok (.bipush 7, 2) := by decide +kernel
theorem dX6_init_102 : decode cX6_init 102 = .ok (.bipush 30, 2) := by decide +kernel
theorem dX6_init_104 : decode cX6_init 104 = .ok (.iastore, 1) := by decide +kernel
theorem dX6_init_105 : decode cX6_init 105 = .ok (.dup, 1) := by decide +kernel
theorem dX6_init_106 : decode cX6_init 106 = .ok (.bipush 8, 2) := by decide +kernel
theorem dX6_init_108 : decode cX6_init 108 = .ok (.iconst 4, 1) := by decide +kernel
theorem dX6_init_109 : decode cX6_init 109 = .ok (.iastore, 1) := by decide +kernel
theorem dX6_init_110 : decode cX6_init 110 = .ok (.putfield 16, 3) := by decide +kernel
theorem dX6_init_113 : decode cX6_init 113 = .ok (.aload_n 0, 1) := by decide +kernel
theorem dX6_init_114 : decode cX6_init 114 = .ok (.bipush 9, 2) := by decide +kernel
theorem dX6_init_116 : decode cX6_init 116 = .ok (.newarray .int, 2) := by decide +kernel
theorem dX6_init_118 : decode cX6_init 118 = .ok (.dup, 1) := by decide +kernel
theorem dX6_init_119 : decode cX6_init 119 = .ok (.iconst 0, 1) := by decide +kernel
theorem dX6_init_120 : decode cX6_init 120 = .ok (.iconst 1, 1) := by decide +kernel
theorem dX6_init_121 : decode cX6_init 121 = .ok (.iastore, 1) := by decide +kernel
theorem dX6_init_122 : decode cX6_init 122 = .ok (.dup, 1) := by decide +kernel
theorem dX6_init_123 : decode cX6_init 123 = .ok (.iconst 1, 1) := by decide +kernel
theorem dX6_init_124 : decode cX6_init 124 = .ok (.iconst 0, 1) := by decide +kernel
theorem dX6_init_125 : decode cX6_init 125 = .ok (.iastore, 1) := by decide +kernel
theorem dX6_init_126 : decode cX6_init 126 = .ok (.dup, 1) := by decide +kernel
theorem dX6_init_127 : decode cX6_init 127 = .ok (.iconst 2, 1) := by decide +kernel
theorem dX6_init_128 : decode cX6_init 128 = .ok (.iconst 0, 1) := by decide +kernel
theorem dX6_init_129 : decode cX6_init 129 = .ok (.iastore, 1) := by decide +kernel
theorem dX6_init_130 : decode cX6_init 130 = .ok (.dup, 1) := by decide +kernel
theorem dX6_init_131 : decode cX6_init 131 = .ok (.iconst 3, 1) := by decide +kernel
theorem dX6_init_132 : decode cX6_init 132 = .ok (.iconst 0, 1) := by decide +kernel
theorem dX6_init_133 : decode cX6_init 133 = .ok (.iastore, 1) := by decide +kernel
theorem dX6_init_134 : decode cX6_init 134 = .ok (.dup, 1) := by decide +kernel
theorem dX6_init_135 : decode cX6_init 135 = .ok (.iconst 4, 1) := by decide +kernel
theorem dX6_init_136 : decode cX6_init 136 = .ok (.iconst 0, 1) := by decide +kernel
theorem dX6_init_137 : decode cX6_init 137 = .ok (.iastore, 1) := by decide +kernel
theorem dX6_init_138 : decode cX6_init 138 = .ok (.dup, 1) := by decide +kernel
theorem dX6_init_139 : decode cX6_init 139 = .ok (.iconst 5, 1) := by decide +kernel
theorem dX6_init_140 : decode cX6_init 140 = .ok (.iconst 0, 1) := by decide +kernel
theorem dX6_init_141 : decode cX6_init 141 = .ok (.iastore, 1) := by decide +kernel
theorem dX6_init_142 : decode cX6_init 142 = .ok (.dup, 1) := by decide +kernel
theorem dX6_init_143 : decode cX6_init 143 = .ok (.bipush 6, 2) := by decide +kernel
theorem dX6_init_145 : decode cX6_init 145 = .ok (.iconst 1, 1) := by decide +kernel
theorem dX6_init_146 : decode cX6_init 146 = .ok (.iastore, 1) := by decide +kernel
theorem dX6_init_147 : decode cX6_init 147 = .ok (.dup, 1) := by decide +kernel
theorem dX6_init_148 : decode cX6_init 148 = .ok (.bipush 7, 2) := by decide +kernel
theorem dX6_init_150 : decode cX6_init 150 = .ok (.iconst 0, 1) := by decide +kernel
theorem dX6_init_151 : decode cX6_init 151 = .ok (.iastore, 1) := by decide +kernel
theorem dX6_init_152 : decode cX6_init 152 = .ok (.dup, 1) := by decide +kernel
theorem dX6_init_153 : decode cX6_init 153 = .ok (.bipush 8, 2) := by decide +kernel
theorem dX6_init_155 : decode cX6_init 155 = .ok (.iconst 1, 1) := by decide +kernel
theorem dX6_init_156 : decode cX6_init 156 = .ok (.iastore, 1) := by decide +kernel
theorem dX6_init_157 : decode cX6_init 157 = .ok (.putfield 19, 3) := by decide +kernel
theorem dX6_init_160 : decode cX6_init 160 = .ok (.aload_n 0, 1) := by decide +kernel
theorem dX6_init_161 : decode cX6_init 161 = .ok (.bipush 9, 2) := by decide +kernel
theorem dX6_init_163 : decode cX6_init 163 = .ok (.newarray .int, 2) := by decide +kernel
theorem dX6_init_165 : decode cX6_init 165 = .ok (.dup, 1) := by decide +kernel
theorem dX6_init_166 : decode cX6_init 166 = .ok (.iconst 0, 1) := by decide +kernel
theorem dX6_init_167 : decode cX6_init 167 = .ok (.bipush 9, 2) := by decide +kernel
theorem dX6_init_169 : decode cX6_init 169 = .ok (.iastore, 1) := by decide +kernel
theorem dX6_init_170 : decode cX6_init 170 = .ok (.dup, 1) := by decide +kernel
theorem dX6_init_171 : decode cX6_init 171 = .ok (.iconst 1, 1) := by decide +kernel
theorem dX6_init_172 : decode cX6_init 172 = .ok (.bipush 9, 2) := by decide +kernel
theorem dX6_init_174 : decode cX6_init 174 = .ok (.iastore, 1) := by decide +kernel
theorem dX6_init_175 : decode cX6_init 175 = .ok (.dup, 1) := by decide +kernel
theorem dX6_init_176 : decode cX6_init 176 = .ok (.iconst 2, 1) := by decide +kernel
theorem dX6_init_177 : decode cX6_init 177 = .ok (.sipush 200, 3) := by decide +kernel
theorem dX6_init_180 : decode cX6_init 180 = .ok (.iastore, 1) := by decide +kernel
theorem dX6_init_181 : decode cX6_init 181 = .ok (.dup, 1) := by decide +kernel
theorem dX6_init_182 : decode cX6_init 182 = .ok (.iconst 3, 1) := by decide +kernel
theorem dX6_init_183 : decode cX6_init 183 = .ok (.bipush 50, 2) := by decide +kernel
theorem dX6_init_185 : decode cX6_init 185 = .ok (.iastore, 1) := by decide +kernel
theorem dX6_init_186 : decode cX6_init 186 = .ok (.dup, 1) := by decide +kernel
theorem dX6_init_187 : decode cX6_init 187 = .ok (.iconst 4, 1) := by decide +kernel
theorem dX6_init_188 : decode cX6_init 188 = .ok (.bipush 9, 2) := by decide +kernel
theorem dX6_init_190 : decode cX6_init 190 = .ok (.iastore, 1) := by decide +kernel
theorem dX6_init_191 : decode cX6_init 191 = .ok (.dup, 1) := by decide +kernel
theorem dX6_init_192 : decode cX6_init 192 = .ok (.iconst 5, 1) := by decide +kernel
theorem dX6_init_193 : decode cX6_init 193 = .ok (.bipush 9, 2) := by decide +kernel
theorem dX6_init_195 : decode cX6_init 195 = .ok (.iastore, 1) := by decide +kernel
theorem dX6_init_196 : decode cX6_init 196 = .ok (.dup, 1) := by decide +kernel
theorem dX6_init_197 : decode cX6_init 197 = .ok (.bipush 6, 2) := by decide +kernel
theorem dX6_init_199 : decode cX6_init 199 = .ok (.bipush 101, 2) := by decide +kernel
theorem dX6_init_201 : decode cX6_init 201 = .ok (.iastore, 1) := by decide +kernel
theorem dX6_init_202 : decode cX6_init 202 = .ok (.dup, 1) := by decide +kernel
theorem dX6_init_203 : decode cX6_init 203 = .ok (.bipush 7, 2) := by decide +kernel
theorem dX6_init_205 : decode cX6_init 205 = .ok (.bipush 100, 2) := by decide +kernel
theorem dX6_init_207 : decode cX6_init 207 = .ok (.iastore, 1) := by decide +kernel
theorem dX6_init_208 : decode cX6_init 208 = .ok (.dup, 1) := by decide +kernel
theorem dX6_init_209 : decode cX6_init 209 = .ok (.bipush 8, 2) := by decide +kernel
theorem dX6_init_211 : decode cX6_init 211 = .ok (.bipush 20, 2) := by decide +kernel
theorem dX6_init_213 : decode cX6_init 213 = .ok (.iastore, 1) := by decide +kernel
theorem dX6_init_214 : decode cX6_init 214 = .ok (.putfield 22, 3) := by decide +kernel
theorem dX6_init_217 : decode cX6_init 217 = .ok (.aload_n 0, 1) := by decide +kernel
theorem dX6_init_218 : decode cX6_init 218 = .ok (.bipush 9, 2) := by decide +kernel
theorem dX6_init_220 : decode cX6_init 220 = .ok (.newarray .int, 2) := by decide +kernel
theorem dX6_init_222 : decode cX6_init 222 = .ok (.dup, 1) := by decide +kernel
theorem dX6_init_223 : decode cX6_init 223 = .ok (.iconst 0, 1) := by decide +kernel
theorem dX6_init_224 : decode cX6_init 224 = .ok (.iconst 3, 1) := by decide +kernel
theorem dX6_init_225 : decode cX6_init 225 = .ok (.iastore, 1) := by decide +kernel
theorem dX6_init_226 : decode cX6_init 226 = .ok (.dup, 1) := by decide +kernel
theorem dX6_init_227 : decode cX6_init 227 = .ok (.iconst 1, 1) := by decide +kernel
theorem dX6_init_228 : decode cX6_init 228 = .ok (.iconst 1, 1) := by decide +kernel
theorem dX6_init_229 : decode cX6_init 229 = .ok (.iastore, 1) := by decide +kernel
theorem dX6_init_230 : decode cX6_init 230 = .ok (.dup, 1) := by decide +kernel
theorem dX6_init_231 : decode cX6_init 231 = .ok (.iconst 2, 1) := by decide +kernel
theorem dX6_init_232 : decode cX6_init 232 = .ok (.bipush 60, 2) := by decide +kernel
theorem dX6_init_234 : decode cX6_init 234 = .ok (.iastore, 1) := by decide +kernel
theorem dX6_init_235 : decode cX6_init 235 = .ok (.dup, 1) := by decide +kernel
theorem dX6_init_236 : decode cX6_init 236 = .ok (.iconst 3, 1) := by decide +kernel
theorem dX6_init_237 : decode cX6_init 237 = .ok (.iconst 5, 1) := by decide +kernel
theorem dX6_init_238 : decode cX6_init 238 = .ok (.iastore, 1) := by decide +kernel
theorem dX6_init_239 : decode cX6_init 239 = .ok (.dup, 1) := by decide +kernel
theorem dX6_init_240 : decode cX6_init 240 = .ok (.iconst 4, 1) := by decide +kernel
theorem dX6_init_241 : decode cX6_init 241 = .ok (.iconst 2, 1) := by decide +kernel
theorem dX6_init_242 : decode cX6_init 242 = .ok (.iastore, 1) := by decide +kernel
theorem dX6_init_243 : decode cX6_init 243 = .ok (.dup, 1) := by decide +kernel
theorem dX6_init_244 : decode cX6_init 244 = .ok (.iconst 5, 1) := by decide +kernel
theorem dX6_init_245 : decode cX6_init 245 = .ok (.iconst 1, 1) := by decide +kernel
theorem dX6_init_246 : decode cX6_init 246 = .ok (.iastore, 1) := by decide +kernel
theorem dX6_init_247 : decode cX6_init 247 = .ok (.dup, 1) := by decide +kernel
theorem dX6_init_248 : decode cX6_init 248 = .ok (.bipush 6, 2) := by decide +kernel
theorem dX6_init_250 : decode cX6_init 250 = .ok (.bipush 80, 2) := by decide +kernel
theorem dX6_init_252 : decode cX6_init 252 = .ok (.iastore, 1) := by decide +kernel
theorem dX6_init_253 : decode cX6_init 253 = .ok (.dup, 1) := by decide +kernel
theorem dX6_init_254 : decode cX6_init 254 = .ok (.bipush 7, 2) := by decide +kernel
theorem dX6_init_256 : decode cX6_init 256 = .ok (.bipush 30, 2) := by decide +kernel
theorem dX6_init_258 : decode cX6_init 258 = .ok (.iastore, 1) := by decide +kernel
theorem dX6_init_259 : decode cX6_init 259 = .ok (.dup, 1) := by decide +kernel
theorem dX6_init_260 : decode cX6_init 260 = .ok (.bipush 8, 2) := by decide +kernel
theorem dX6_init_262 : decode cX6_init 262 = .ok (.iconst 4, 1) := by decide +kernel
theorem dX6_init_263 : decode cX6_init 263 = .ok (.iastore, 1) := by decide +kernel
theorem dX6_init_264 : decode cX6_init 264 = .ok (.putfield 25, 3) := by decide +kernel
theorem dX6_init_267 : decode cX6_init 267 = .ok (.aload_n 0, 1) := by decide +kernel
theorem dX6_init_268 : decode cX6_init 268 = .ok (.bipush 20, 2) := by decide +kernel
theorem dX6_init_270 : decode cX6_init 270 = .ok (.newarray .int, 2) := by decide +kernel
theorem dX6_init_272 : decode cX6_init 272 = .ok (.putfield 28, 3) := by decide +kernel
theorem dX6_init_275 : decode cX6_init 275 = .ok (.aload_n 0, 1) := by decide +kernel
theorem dX6_init_276 : decode cX6_init 276 = .ok (.bipush 20, 2) := by decide +kernel
theorem dX6_init_278 : decode cX6_init 278 = .ok (.newarray .int, 2) := by decide +kernel
theorem dX6_init_280 : decode cX6_init 280 = .ok (.putfield 31, 3) := by decide +kernel
theorem dX6_init_283 : decode cX6_init 283 = .ok (.aload_n 0, 1) := by decide +kernel
theorem dX6_init_284 : decode cX6_init 284 = .ok (.bipush 20, 2) := by decide +kernel
theorem dX6_init_286 : decode cX6_init 286 = .ok (.newarray .int, 2) := by decide +kernel
theorem dX6_init_288 : decode cX6_init 288 = .ok (.putfield 34, 3) := by decide +kernel
theorem dX6_init_291 : decode cX6_init 291 = .ok (.aload_n 0, 1) := by decide +kernel
theorem dX6_init_292 : decode cX6_init 292 = .ok (.bipush 20, 2) := by decide +kernel
theorem dX6_init_294 : decode cX6_init 294 = .ok (.newarray .int, 2) := by decide +kernel
theorem dX6_init_296 : decode cX6_init 296 = .ok (.putfield 37, 3) := by decide +kernel
theorem dX6_init_299 : decode cX6_init 299 = .ok (.aload_n 0, 1) := by decide +kernel
theorem dX6_init_300 : decode cX6_init 300 = .ok (.bipush 20, 2) := by decide +kernel
theorem dX6_init_302 : decode cX6_init 302 = .ok (.newarray .int, 2) := by decide +kernel
theorem dX6_init_304 : decode cX6_init 304 = .ok (.putfield 40, 3) := by decide +kernel
theorem dX6_init_307 : decode cX6_init 307 = .ok (.aload_n 0, 1) := by decide +kernel
theorem dX6_init_308 : decode cX6_init 308 = .ok (.bipush 20, 2) := by decide +kernel
theorem dX6_init_310 : decode cX6_init 310 = .ok (.newarray .int, 2) := by decide +kernel
theorem dX6_init_312 : decode cX6_init 312 = .ok (.putfield 43, 3) := by decide +kernel
theorem dX6_init_315 : decode cX6_init 315 = .ok (.aload_n 0, 1) := by decide +kernel
theorem dX6_init_316 : decode cX6_init 316 = .ok (.bipush 20, 2) := by decide +kernel
theorem dX6_init_318 : decode cX6_init 318 = .ok (.newarray .int, 2) := by decide +kernel
theorem dX6_init_320 : decode cX6_init 320 = .ok (.putfield 46, 3) := by decide +kernel
theorem dX6_init_323 : decode cX6_init 323 = .ok (.aload_n 0, 1) := by decide +kernel
theorem dX6_init_324 : decode cX6_init 324 = .ok (.bipush 20, 2) := by decide +kernel
theorem dX6_init_326 : decode cX6_init 326 = .ok (.newarray .int, 2) := by decide +kernel
theorem dX6_init_328 : decode cX6_init 328 = .ok (.putfield 49, 3) := by decide +kernel
theorem dX6_init_331 : decode cX6_init 331 = .ok (.aload_n 0, 1) := by decide +kernel
theorem dX6_init_332 : decode cX6_init 332 = .ok (.sipush 2000, 3) := by decide +kernel
theorem dX6_init_335 : decode cX6_init 335 = .ok (.newarray .int, 2) := by decide +kernel
theorem dX6_init_337 : decode cX6_init 337 = .ok (.putfield 52, 3) := by decide +kernel
theorem dX6_init_340 : decode cX6_init 340 = .ok (.aload_n 0, 1) := by decide +kernel
theorem dX6_init_341 : decode cX6_init 341 = .ok (.sipush 2000, 3) := by decide +kernel
theorem dX6_init_344 : decode cX6_init 344 = .ok (.newarray .boolean, 2) := by decide +kernel
theorem dX6_init_346 : decode cX6_init 346 = .ok (.putfield 55, 3) := by decide +kernel
theorem dX6_init_349 : decode cX6_init 349 = .ok (.aload_n 0, 1) := by decide +kernel
theorem dX6_init_350 : decode cX6_init 350 = .ok (.bipush 8, 2) := by decide +kernel
theorem dX6_init_352 : decode cX6_init 352 = .ok (.newarray .int, 2) := by decide +kernel
theorem dX6_init_354 : decode cX6_init 354 = .ok (.putfield 59, 3) := by decide +kernel
theorem dX6_init_357 : decode cX6_init 357 = .ok (.aload_n 0, 1) := by decide +kernel
theorem dX6_init_358 : decode cX6_init 358 = .ok (.bipush 8, 2) := by decide +kernel
theorem dX6_init_360 : decode cX6_init 360 = .ok (.newarray .int, 2) := by decide +kernel
theorem dX6_init_362 : decode cX6_init 362 = .ok (.putfield 62, 3) := by decide +kernel
theorem dX6_init_365 : decode cX6_init 365 = .ok (.aload_n 0, 1) := by decide +kernel
theorem dX6_init_366 : decode cX6_init 366 = .ok (.bipush 8, 2) := by decide +kernel
theorem dX6_init_368 : decode cX6_init 368 = .ok (.newarray .int, 2) := by decide +kernel
theorem dX6_init_370 : decode cX6_init 370 = .ok (.putfield 65, 3) := by decide +kernel
theorem dX6_init_373 : decode cX6_init 373 = .ok (.aload_n 0, 1) := by decide +kernel
theorem dX6_init_374 : decode cX6_init 374 = .ok (.bipush 8, 2) := by decide +kernel
theorem dX6_init_376 : decode cX6_init 376 = .ok (.newarray .int, 2) := by decide +kernel
theorem dX6_init_378 : decode cX6_init 378 = .ok (.putfield 68, 3) := by decide +kernel
theorem dX6_init_381 : decode cX6_init 381 = .ok (.aload_n 0, 1) := by decide +kernel
theorem dX6_init_382 : decode cX6_init 382 = .ok (.bipush 16, 2) := by decide +kernel
theorem dX6_init_384 : decode cX6_init 384 = .ok (.newarray .int, 2) := by decide +kernel
theorem dX6_init_386 : decode cX6_init 386 = .ok (.dup, 1) := by decide +kernel
theorem dX6_init_387 : decode cX6_init 387 = .ok (.iconst 0, 1) := by decide +kernel
theorem dX6_init_388 : decode cX6_init 388 = .ok (.iconst (-1), 1) := by decide +kernel
theorem dX6_init_389 : decode cX6_init 389 = .ok (.iastore, 1) := by decide +kernel
theorem dX6_init_390 : decode cX6_init 390 = .ok (.dup, 1) := by decide +kernel
theorem dX6_init_391 : decode cX6_init 391 = .ok (.iconst 1, 1) := by decide +kernel
theorem dX6_init_392 : decode cX6_init 392 = .ok (.iconst (-1), 1) := by decide +kernel
theorem dX6_init_393 : decode cX6_init 393 = .ok (.iastore, 1) := by decide +kernel
theorem dX6_init_394 : decode cX6_init 394 = .ok (.dup, 1) := by decide +kernel
theorem dX6_init_395 : decode cX6_init 395 = .ok (.iconst 2, 1) := by decide +kernel
theorem dX6_init_396 : decode cX6_init 396 = .ok (.iconst (-1), 1) := by decide +kernel
theorem dX6_init_397 : decode cX6_init 397 = .ok (.iastore, 1) := by decide +kernel
theorem dX6_init_398 : decode cX6_init 398 = .ok (.dup, 1) := by decide +kernel
theorem dX6_init_399 : decode cX6_init 399 = .ok (.iconst 3, 1) := by decide +kernel
theorem dX6_init_400 : decode cX6_init 400 = .ok (.iconst (-1), 1) := by decide +kernel
theorem dX6_init_401 : decode cX6_init 401 = .ok (.iastore, 1) := by decide +kernel
theorem dX6_init_402 : decode cX6_init 402 = .ok (.dup, 1) := by decide +kernel
theorem dX6_init_403 : decode cX6_init 403 = .ok (.iconst 4, 1) := by decide +kernel
theorem dX6_init_404 : decode cX6_init 404 = .ok (.iconst (-1), 1) := by decide +kernel
theorem dX6_init_405 : decode cX6_init 405 = .ok (.iastore, 1) := by decide +kernel
theorem dX6_init_406 : decode cX6_init 406 = .ok (.dup, 1) := by decide +kernel
theorem dX6_init_407 : decode cX6_init 407 = .ok (.iconst 5, 1) := by decide +kernel
theorem dX6_init_408 : decode cX6_init 408 = .ok (.iconst (-1), 1) := by decide +kernel
theorem dX6_init_409 : decode cX6_init 409 = .ok (.iastore, 1) := by decide +kernel
theorem dX6_init_410 : decode cX6_init 410 = .ok (.dup, 1) := by decide +kernel
theorem dX6_init_411 : decode cX6_init 411 = .ok (.bipush 6, 2) := by decide +kernel
theorem dX6_init_413 : decode cX6_init 413 = .ok (.iconst (-1), 1) := by decide +kernel
theorem dX6_init_414 : decode cX6_init 414 = .ok (.iastore, 1) := by decide +kernel
theorem dX6_init_415 : decode cX6_init 415 = .ok (.dup, 1) := by decide +kernel
theorem dX6_init_416 : decode cX6_init 416 = .ok (.bipush 7, 2) := by decide +kernel
theorem dX6_init_418 : decode cX6_init 418 = .ok (.iconst (-1), 1) := by decide +kernel
theorem dX6_init_419 : decode cX6_init 419 = .ok (.iastore, 1) := by decide +kernel
theorem dX6_init_420 : decode cX6_init 420 = .ok (.dup, 1) := by decide +kernel
theorem dX6_init_421 : decode cX6_init 421 = .ok (.bipush 8, 2) := by decide +kernel
theorem dX6_init_423 : decode cX6_init 423 = .ok (.iconst (-1), 1) := by decide +kernel
theorem dX6_init_424 : decode cX6_init 424 = .ok (.iastore, 1) := by decide +kernel
theorem dX6_init_425 : decode cX6_init 425 = .ok (.dup, 1) := by decide +kernel
theorem dX6_init_426 : decode cX6_init 426 = .ok (.bipush 9, 2) := by decide +kernel
theorem dX6_init_428 : decode cX6_init 428 = .ok (.iconst (-1), 1) := by decide +kernel
theorem dX6_init_429 : decode cX6_init 429 = .ok (.iastore, 1) := by decide +kernel
theorem dX6_init_430 : decode cX6_init 430 = .ok (.dup, 1) := by decide +kernel
theorem dX6_init_431 : decode cX6_init 431 = .ok (.bipush 10, 2) := by decide +kernel
theorem dX6_init_433 : decode cX6_init 433 = .ok (.iconst (-1), 1) := by decide +kernel
theorem dX6_init_434 : decode cX6_init 434 = .ok (.iastore, 1) := by decide +kernel
theorem dX6_init_435 : decode cX6_init 435 = .ok (.dup, 1) := by decide +kernel
theorem dX6_init_436 : decode cX6_init 436 = .ok (.bipush 11, 2) := by decide +kernel
theorem dX6_init_438 : decode cX6_init 438 = .ok (.iconst (-1), 1) := by decide +kernel
theorem dX6_init_439 : decode cX6_init 439 = .ok (.iastore, 1) := by decide +kernel
theorem dX6_init_440 : decode cX6_init 440 = .ok (.dup, 1) := by decide +kernel
theorem dX6_init_441 : decode cX6_init 441 = .ok (.bipush 12, 2) := by decide +kernel
theorem dX6_init_443 : decode cX6_init 443 = .ok (.iconst (-1), 1) := by decide +kernel
theorem dX6_init_444 : decode cX6_init 444 = .ok (.iastore, 1) := by decide +kernel
theorem dX6_init_445 : decode cX6_init 445 = .ok (.dup, 1) := by decide +kernel
theorem dX6_init_446 : decode cX6_init 446 = .ok (.bipush 13, 2) := by decide +kernel
theorem dX6_init_448 : decode cX6_init 448 = .ok (.iconst (-1), 1) := by decide +kernel
theorem dX6_init_449 : decode cX6_init 449 = .ok (.iastore, 1) := by decide +kernel
theorem dX6_init_450 : decode cX6_init 450 = .ok (.dup, 1) := by decide +kernel
theorem dX6_init_451 : decode cX6_init 451 = .ok (.bipush 14, 2) := by decide +kernel
theorem dX6_init_453 : decode cX6_init 453 = .ok (.iconst (-1), 1) := by decide +kernel
theorem dX6_init_454 : decode cX6_init 454 = .ok (.iastore, 1) := by decide +kernel
theorem dX6_init_455 : decode cX6_init 455 = .ok (.dup, 1) := by decide +kernel
theorem dX6_init_456 : decode cX6_init 456 = .ok (.bipush 15, 2) := by decide +kernel
theorem dX6_init_458 : decode cX6_init 458 = .ok (.iconst (-1), 1) := by decide +kernel
theorem dX6_init_459 : decode cX6_init 459 = .ok (.iastore, 1) := by decide +kernel
theorem dX6_init_460 : decode cX6_init 460 = .ok (.putfield 71, 3) := by decide +kernel
theorem dX6_init_463 : decode cX6_init 463 = .ok (.aload_n 0, 1) := by decide +kernel
theorem dX6_init_464 : decode cX6_init 464 = .ok (.bipush 16, 2) := by decide +kernel
theorem dX6_init_466 : decode cX6_init 466 = .ok (.newarray .int, 2) := by decide +kernel
theorem dX6_init_468 : decode cX6_init 468 = .ok (.putfield 74, 3) := by decide +kernel
theorem dX6_init_471 : decode cX6_init 471 = .ok (.aload_n 0, 1) := by decide +kernel
theorem dX6_init_472 : decode cX6_init 472 = .ok (.bipush 16, 2) := by decide +kernel
theorem dX6_init_474 : decode cX6_init 474 = .ok (.newarray .int, 2) := by decide +kernel
theorem dX6_init_476 : decode cX6_init 476 = .ok (.putfield 77, 3) := by decide +kernel
theorem dX6_init_479 : decode cX6_init 479 = .ok (.aload_n 0, 1) := by decide +kernel
theorem dX6_init_480 : decode cX6_init 480 = .ok (.bipush 16, 2) := by decide +kernel
theorem dX6_init_482 : decode cX6_init 482 = .ok (.newarray .int, 2) := by decide +kernel
theorem dX6_init_484 : decode cX6_init 484 = .ok (.putfield 80, 3) := by decide +kernel
theorem dX6_init_487 : decode cX6_init 487 = .ok (.aload_n 0, 1) := by decide +kernel
theorem dX6_init_488 : decode cX6_init 488 = .ok (.sipush 320, 3) := by decide +kernel
theorem dX6_init_491 : decode cX6_init 491 = .ok (.newarray .int, 2) := by decide +kernel
theorem dX6_init_493 : decode cX6_init 493 = .ok (.putfield 83, 3) := by decide +kernel
theorem dX6_init_496 : decode cX6_init 496 = .ok (.aload_n 0, 1) := by decide +kernel
theorem dX6_init_497 : decode cX6_init 497 = .ok (.bipush 20, 2) := by decide +kernel
theorem dX6_init_499 : decode cX6_init 499 = .ok (.newarray .int, 2) := by decide +kernel
theorem dX6_init_501 : decode cX6_init 501 = .ok (.putfield 86, 3) := by decide +kernel
theorem dX6_init_504 : decode cX6_init 504 = .ok (.aload_n 0, 1) := by decide +kernel
theorem dX6_init_505 : decode cX6_init 505 = .ok (.bipush 16, 2) := by decide +kernel
theorem dX6_init_507 : decode cX6_init 507 = .ok (.newarray .boolean, 2) := by decide +kernel
theorem dX6_init_509 : decode cX6_init 509 = .ok (.putfield 89, 3) := by decide +kernel
theorem dX6_init_512 : decode cX6_init 512 = .ok (.aload_n 0, 1) := by decide +kernel
theorem dX6_init_513 : decode cX6_init 513 = .ok (.bipush 22, 2) := by decide +kernel
theorem dX6_init_515 : decode cX6_init 515 = .ok (.newarray .int, 2) := by decide +kernel
theorem dX6_init_517 : decode cX6_init 517 = .ok (.putfield 92, 3) := by decide +kernel
theorem dX6_init_520 : decode cX6_init 520 = .ok (.aload_n 0, 1) := by decide +kernel
theorem dX6_init_521 : decode cX6_init 521 = .ok (.bipush 22, 2) := by decide +kernel
theorem dX6_init_523 : decode cX6_init 523 = .ok (.newarray .int, 2) := by decide +kernel
theorem dX6_init_525 : decode cX6_init 525 = .ok (.putfield 95, 3) := by decide +kernel
theorem dX6_init_528 : decode cX6_init 528 = .ok (.aload_n 0, 1) := by decide +kernel
theorem dX6_init_529 : decode cX6_init 529 = .ok (.bipush 22, 2) := by decide +kernel
theorem dX6_init_531 : decode cX6_init 531 = .ok (.newarray .int, 2) := by decide +kernel
theorem dX6_init_533 : decode cX6_init 533 = .ok (.putfield 98, 3) := by decide +kernel
theorem dX6_init_536 : decode cX6_init 536 = .ok (.return_, 1) := by decide +kernel
theorem dX6_thrown_0 : decode cX6_thrown 0 = .ok (.aload_n 0, 1) := by decide +kernel
theorem dX6_thrown_1 : decode cX6_thrown 1 = .ok (.getfield 101, 3) := by decide +kernel
theorem dX6_thrown_4 : decode cX6_thrown 4 = .ok (.ireturn, 1) := by decide +kernel
theorem dX6_refuse_0 : decode cX6_refuse 0 = .ok (.aload_n 0, 1) := by decide +kernel
theorem dX6_refuse_1 : decode cX6_refuse 1 = .ok (.iconst 1, 1) := by decide +kernel
theorem dX6_refuse_2 : decode cX6_refuse 2 = .ok (.putfield 101, 3) := by decide +kernel
theorem dX6_refuse_5 : decode cX6_refuse 5 = .ok (.iconst 0, 1) := by decide +kernel
theorem dX6_refuse_6 : decode cX6_refuse 6 = .ok (.ireturn, 1) := by decide +kernel
theorem dX6_come_0 : decode cX6_come 0 = .ok (.bipush 24, 2) := by decide +kernel
theorem dX6_come_2 : decode cX6_come 2 = .ok (.istore_n 2, 1) := by decide +kernel
theorem dX6_come_3 : decode cX6_come 3 = .ok (.iload_n 2, 1) := by decide +kernel
theorem dX6_come_4 : decode cX6_come 4 = .ok (.ifCond .lt 35, 3) := by decide +kernel
theorem dX6_come_7 : decode cX6_come 7 = .ok (.aload_n 0, 1) := by decide +kernel
theorem dX6_come_8 : decode cX6_come 8 = .ok (.getfield 7, 3) := by decide +kernel
theorem dX6_come_11 : decode cX6_come 11 = .ok (.aload_n 0, 1) := by decide +kernel
theorem dX6_come_12 : decode cX6_come 12 = .ok (.getfield 105, 3) := by decide +kernel
theorem dX6_come_15 : decode cX6_come 15 = .ok (.iload_n 1, 1) := by decide +kernel
theorem dX6_come_16 : decode cX6_come 16 = .ok (.iload_n 2, 1) := by decide +kernel
theorem dX6_come_17 : decode cX6_come 17 = .ok (.iushr, 1) := by decide +kernel
theorem dX6_come_18 : decode cX6_come 18 = .ok (.sipush 255, 3) := by decide +kernel
theorem dX6_come_21 : decode cX6_come 21 = .ok (.iand, 1) := by decide +kernel
theorem dX6_come_22 : decode cX6_come 22 = .ok (.iastore, 1) := by decide +kernel
theorem dX6_come_23 : decode cX6_come 23 = .ok (.aload_n 0, 1) := by decide +kernel
theorem dX6_come_24 : decode cX6_come 24 = .ok (.dup, 1) := by decide +kernel
theorem dX6_come_25 : decode cX6_come 25 = .ok (.getfield 105, 3) := by decide +kernel
theorem dX6_come_28 : decode cX6_come 28 = .ok (.iconst 1, 1) := by decide +kernel
theorem dX6_come_29 : decode cX6_come 29 = .ok (.iadd, 1) := by decide +kernel
theorem dX6_come_30 : decode cX6_come 30 = .ok (.putfield 105, 3) := by decide +kernel
theorem dX6_come_33 : decode cX6_come 33 = .ok (.iinc 2 (-8), 3) := by decide +kernel
theorem dX6_come_36 : decode cX6_come 36 = .ok (.goto (-33), 3) := by decide +kernel
theorem dX6_come_39 : decode cX6_come 39 = .ok (.return_, 1) := by decide +kernel
theorem dX6_feed_0 : decode cX6_feed 0 = .ok (.aload_n 0, 1) := by decide +kernel
theorem dX6_feed_1 : decode cX6_feed 1 = .ok (.iconst 0, 1) := by decide +kernel
theorem dX6_feed_2 : decode cX6_feed 2 = .ok (.putfield 101, 3) := by decide +kernel
theorem dX6_feed_5 : decode cX6_feed 5 = .ok (.aload_n 0, 1) := by decide +kernel
theorem dX6_feed_6 : decode cX6_feed 6 = .ok (.getfield 105, 3) := by decide +kernel
theorem dX6_feed_9 : decode cX6_feed 9 = .ok (.bipush 20, 2) := by decide +kernel
theorem dX6_feed_11 : decode cX6_feed 11 = .ok (.iadd, 1) := by decide +kernel
theorem dX6_feed_12 : decode cX6_feed 12 = .ok (.sipush 180, 3) := by decide +kernel
theorem dX6_feed_15 : decode cX6_feed 15 = .ok (.if_icmp .le 5, 3) := by decide +kernel
theorem dX6_feed_18 : decode cX6_feed 18 = .ok (.iconst (-1), 1) := by decide +kernel
theorem dX6_feed_19 : decode cX6_feed 19 = .ok (.ireturn, 1) := by decide +kernel
theorem dX6_feed_20 : decode cX6_feed 20 = .ok (.aload_n 0, 1) := by decide +kernel
theorem dX6_feed_21 : decode cX6_feed 21 = .ok (.iload_n 1, 1) := by decide +kernel
theorem dX6_feed_22 : decode cX6_feed 22 = .ok (.invokevirtual 108, 3) := by decide +kernel
theorem dX6_feed_25 : decode cX6_feed 25 = .ok (.aload_n 0, 1) := by decide +kernel
theorem dX6_feed_26 : decode cX6_feed 26 = .ok (.iload_n 2, 1) := by decide +kernel
theorem dX6_feed_27 : decode cX6_feed 27 = .ok (.invokevirtual 108, 3) := by decide +kernel
theorem dX6_feed_30 : decode cX6_feed 30 = .ok (.aload_n 0, 1) := by decide +kernel
theorem dX6_feed_31 : decode cX6_feed 31 = .ok (.iload_n 3, 1) := by decide +kernel
theorem dX6_feed_32 : decode cX6_feed 32 = .ok (.invokevirtual 108, 3) := by decide +kernel
theorem dX6_feed_35 : decode cX6_feed 35 = .ok (.aload_n 0, 1) := by decide +kernel
theorem dX6_feed_36 : decode cX6_feed 36 = .ok (.iload 4, 2) := by decide +kernel
theorem dX6_feed_38 : decode cX6_feed 38 = .ok (.invokevirtual 108, 3) := by decide +kernel
theorem dX6_feed_41 : decode cX6_feed 41 = .ok (.aload_n 0, 1) := by decide +kernel
theorem dX6_feed_42 : decode cX6_feed 42 = .ok (.iload 5, 2) := by decide +kernel
theorem dX6_feed_44 : decode cX6_feed 44 = .ok (.invokevirtual 108, 3) := by decide +kernel
theorem dX6_feed_47 : decode cX6_feed 47 = .ok (.aload_n 0, 1) := by decide +kernel
theorem dX6_feed_48 : decode cX6_feed 48 = .ok (.getfield 105, 3) := by decide +kernel
theorem dX6_feed_51 : decode cX6_feed 51 = .ok (.ireturn, 1) := by decide +kernel
theorem dX6_end_0 : decode cX6_end 0 = .ok (.aload_n 0, 1) := by decide +kernel
theorem dX6_end_1 : decode cX6_end 1 = .ok (.iconst 0, 1) := by decide +kernel
theorem dX6_end_2 : decode cX6_end 2 = .ok (.putfield 101, 3) := by decide +kernel
theorem dX6_end_5 : decode cX6_end 5 = .ok (.iload_n 1, 1) := by decide +kernel
theorem dX6_end_6 : decode cX6_end 6 = .ok (.ifCond .lt 11, 3) := by decide +kernel
theorem dX6_end_9 : decode cX6_end 9 = .ok (.iload_n 1, 1) := by decide +kernel
theorem dX6_end_10 : decode cX6_end 10 = .ok (.aload_n 0, 1) := by decide +kernel
theorem dX6_end_11 : decode cX6_end 11 = .ok (.getfield 105, 3) := by decide +kernel
theorem dX6_end_14 : decode cX6_end 14 = .ok (.if_icmp .le 5, 3) := by decide +kernel
theorem dX6_end_17 : decode cX6_end 17 = .ok (.iconst 0, 1) := by decide +kernel
theorem dX6_end_18 : decode cX6_end 18 = .ok (.ireturn, 1) := by decide +kernel
theorem dX6_end_19 : decode cX6_end 19 = .ok (.aload_n 0, 1) := by decide +kernel
theorem dX6_end_20 : decode cX6_end 20 = .ok (.iload_n 1, 1) := by decide +kernel
theorem dX6_end_21 : decode cX6_end 21 = .ok (.putfield 105, 3) := by decide +kernel
theorem dX6_end_24 : decode cX6_end 24 = .ok (.iconst 1, 1) := by decide +kernel
theorem dX6_end_25 : decode cX6_end 25 = .ok (.ireturn, 1) := by decide +kernel
theorem dX6_byteAt_0 : decode cX6_byteAt 0 = .ok (.iload_n 1, 1) := by decide +kernel
theorem dX6_byteAt_1 : decode cX6_byteAt 1 = .ok (.aload_n 0, 1) := by decide +kernel
theorem dX6_byteAt_2 : decode cX6_byteAt 2 = .ok (.getfield 112, 3) := by decide +kernel
theorem dX6_byteAt_5 : decode cX6_byteAt 5 = .ok (.if_icmp .ge 12, 3) := by decide +kernel
theorem dX6_byteAt_8 : decode cX6_byteAt 8 = .ok (.aload_n 0, 1) := by decide +kernel
theorem dX6_byteAt_9 : decode cX6_byteAt 9 = .ok (.getfield 7, 3) := by decide +kernel
theorem dX6_byteAt_12 : decode cX6_byteAt 12 = .ok (.iload_n 1, 1) := by decide +kernel
theorem dX6_byteAt_13 : decode cX6_byteAt 13 = .ok (.iaload, 1) := by decide +kernel
theorem dX6_byteAt_14 : decode cX6_byteAt 14 = .ok (.goto 4, 3) := by decide +kernel
theorem dX6_byteAt_17 : decode cX6_byteAt 17 = .ok (.iconst 0, 1) := by decide +kernel
theorem dX6_byteAt_18 : decode cX6_byteAt 18 = .ok (.ireturn, 1) := by decide +kernel
theorem dX6_isDigit_0 : decode cX6_isDigit 0 = .ok (.iload_n 0, 1) := by decide +kernel
theorem dX6_isDigit_1 : decode cX6_isDigit 1 = .ok (.bipush 48, 2) := by decide +kernel
theorem dX6_isDigit_3 : decode cX6_isDigit 3 = .ok (.if_icmp .lt 13, 3) := by decide +kernel
theorem dX6_isDigit_6 : decode cX6_isDigit 6 = .ok (.iload_n 0, 1) := by decide +kernel
theorem dX6_isDigit_7 : decode cX6_isDigit 7 = .ok (.bipush 57, 2) := by decide +kernel
theorem dX6_isDigit_9 : decode cX6_isDigit 9 = .ok (.if_icmp .gt 7, 3) := by decide +kernel
theorem dX6_isDigit_12 : decode cX6_isDigit 12 = .ok (.iconst 1, 1) := by decide +kernel
theorem dX6_isDigit_13 : decode cX6_isDigit 13 = .ok (.goto 4, 3) := by decide +kernel
theorem dX6_isDigit_16 : decode cX6_isDigit 16 = .ok (.iconst 0, 1) := by decide +kernel
theorem dX6_isDigit_17 : decode cX6_isDigit 17 = .ok (.ireturn, 1) := by decide +kernel
theorem dX6_isLetter_0 : decode cX6_isLetter 0 = .ok (.iload_n 0, 1) := by decide +kernel
theorem dX6_isLetter_1 : decode cX6_isLetter 1 = .ok (.bipush 97, 2) := by decide +kernel
theorem dX6_isLetter_3 : decode cX6_isLetter 3 = .ok (.if_icmp .lt 13, 3) := by decide +kernel
theorem dX6_isLetter_6 : decode cX6_isLetter 6 = .ok (.iload_n 0, 1) := by decide +kernel
theorem dX6_isLetter_7 : decode cX6_isLetter 7 = .ok (.bipush 122, 2) := by decide +kernel
theorem dX6_isLetter_9 : decode cX6_isLetter 9 = .ok (.if_icmp .gt 7, 3) := by decide +kernel
theorem dX6_isLetter_12 : decode cX6_isLetter 12 = .ok (.iconst 1, 1) := by decide +kernel
theorem dX6_isLetter_13 : decode cX6_isLetter 13 = .ok (.goto 4, 3) := by decide +kernel
theorem dX6_isLetter_16 : decode cX6_isLetter 16 = .ok (.iconst 0, 1) := by decide +kernel
theorem dX6_isLetter_17 : decode cX6_isLetter 17 = .ok (.ireturn, 1) := by decide +kernel
theorem dX6_go_0 : decode cX6_go 0 = .ok (.aload_n 0, 1) := by decide +kernel
theorem dX6_go_1 : decode cX6_go 1 = .ok (.getfield 115, 3) := by decide +kernel
theorem dX6_go_4 : decode cX6_go 4 = .ok (.aload_n 0, 1) := by decide +kernel
theorem dX6_go_5 : decode cX6_go 5 = .ok (.getfield 112, 3) := by decide +kernel
theorem dX6_go_8 : decode cX6_go 8 = .ok (.if_icmp .ge 44, 3) := by decide +kernel
theorem dX6_go_11 : decode cX6_go 11 = .ok (.aload_n 0, 1) := by decide +kernel
theorem dX6_go_12 : decode cX6_go 12 = .ok (.getfield 7, 3) := by decide +kernel
theorem dX6_go_15 : decode cX6_go 15 = .ok (.aload_n 0, 1) := by decide +kernel
theorem dX6_go_16 : decode cX6_go 16 = .ok (.getfield 115, 3) := by decide +kernel
theorem dX6_go_19 : decode cX6_go 19 = .ok (.iaload, 1) := by decide +kernel
theorem dX6_go_20 : decode cX6_go 20 = .ok (.bipush 32, 2) := by decide +kernel
theorem dX6_go_22 : decode cX6_go 22 = .ok (.if_icmp .eq 17, 3) := by decide +kernel
theorem dX6_go_25 : decode cX6_go 25 = .ok (.aload_n 0, 1) := by decide +kernel
theorem dX6_go_26 : decode cX6_go 26 = .ok (.getfield 7, 3) := by decide +kernel
theorem dX6_go_29 : decode cX6_go 29 = .ok (.aload_n 0, 1) := by decide +kernel
theorem dX6_go_30 : decode cX6_go 30 = .ok (.getfield 115, 3) := by decide +kernel
theorem dX6_go_33 : decode cX6_go 33 = .ok (.iaload, 1) := by decide +kernel
theorem dX6_go_34 : decode cX6_go 34 = .ok (.bipush 10, 2) := by decide +kernel
theorem dX6_go_36 : decode cX6_go 36 = .ok (.if_icmp .ne 16, 3) := by decide +kernel
theorem dX6_go_39 : decode cX6_go 39 = .ok (.aload_n 0, 1) := by decide +kernel
theorem dX6_go_40 : decode cX6_go 40 = .ok (.dup, 1) := by decide +kernel
theorem dX6_go_41 : decode cX6_go 41 = .ok (.getfield 115, 3) := by decide +kernel
theorem dX6_go_44 : decode cX6_go 44 = .ok (.iconst 1, 1) := by decide +kernel
theorem dX6_go_45 : decode cX6_go 45 = .ok (.iadd, 1) := by decide +kernel
theorem dX6_go_46 : decode cX6_go 46 = .ok (.putfield 115, 3) := by decide +kernel
theorem dX6_go_49 : decode cX6_go 49 = .ok (.goto (-49), 3) := by decide +kernel
theorem dX6_go_52 : decode cX6_go 52 = .ok (.aload_n 0, 1) := by decide +kernel
theorem dX6_go_53 : decode cX6_go 53 = .ok (.aload_n 0, 1) := by decide +kernel
theorem dX6_go_54 : decode cX6_go 54 = .ok (.getfield 115, 3) := by decide +kernel
theorem dX6_go_57 : decode cX6_go 57 = .ok (.putfield 118, 3) := by decide +kernel
theorem dX6_go_60 : decode cX6_go 60 = .ok (.aload_n 0, 1) := by decide +kernel
theorem dX6_go_61 : decode cX6_go 61 = .ok (.getfield 112, 3) := by decide +kernel
theorem dX6_go_64 : decode cX6_go 64 = .ok (.sipush 160, 3) := by decide +kernel
theorem dX6_go_67 : decode cX6_go 67 = .ok (.if_icmp .le 26, 3) := by decide +kernel
theorem dX6_go_70 : decode cX6_go 70 = .ok (.aload_n 0, 1) := by decide +kernel
theorem dX6_go_71 : decode cX6_go 71 = .ok (.getfield 118, 3) := by decide +kernel
theorem dX6_go_74 : decode cX6_go 74 = .ok (.sipush 160, 3) := by decide +kernel
theorem dX6_go_77 : decode cX6_go 77 = .ok (.if_icmp .lt 16, 3) := by decide +kernel
theorem dX6_go_80 : decode cX6_go 80 = .ok (.aload_n 0, 1) := by decide +kernel
theorem dX6_go_81 : decode cX6_go 81 = .ok (.sipush 160, 3) := by decide +kernel
theorem dX6_go_84 : decode cX6_go 84 = .ok (.putfield 118, 3) := by decide +kernel
theorem dX6_go_87 : decode cX6_go 87 = .ok (.aload_n 0, 1) := by decide +kernel
theorem dX6_go_88 : decode cX6_go 88 = .ok (.iconst 1, 1) := by decide +kernel
theorem dX6_go_89 : decode cX6_go 89 = .ok (.putfield 121, 3) := by decide +kernel
theorem dX6_go_92 : decode cX6_go 92 = .ok (.return_, 1) := by decide +kernel
theorem dX6_go_93 : decode cX6_go 93 = .ok (.aload_n 0, 1) := by decide +kernel
theorem dX6_go_94 : decode cX6_go 94 = .ok (.getfield 115, 3) := by decide +kernel
theorem dX6_go_97 : decode cX6_go 97 = .ok (.aload_n 0, 1) := by decide +kernel
theorem dX6_go_98 : decode cX6_go 98 = .ok (.getfield 112, 3) := by decide +kernel
theorem dX6_go_101 : decode cX6_go 101 = .ok (.if_icmp .lt 9, 3) := by decide +kernel
theorem dX6_go_104 : decode cX6_go 104 = .ok (.aload_n 0, 1) := by decide +kernel
theorem dX6_go_105 : decode cX6_go 105 = .ok (.iconst 0, 1) := by decide +kernel
theorem dX6_go_106 : decode cX6_go 106 = .ok (.putfield 121, 3) := by decide +kernel
theorem dX6_go_109 : decode cX6_go 109 = .ok (.return_, 1) := by decide +kernel
theorem dX6_go_110 : decode cX6_go 110 = .ok (.aload_n 0, 1) := by decide +kernel
theorem dX6_go_111 : decode cX6_go 111 = .ok (.getfield 7, 3) := by decide +kernel
theorem dX6_go_114 : decode cX6_go 114 = .ok (.aload_n 0, 1) := by decide +kernel
theorem dX6_go_115 : decode cX6_go 115 = .ok (.getfield 115, 3) := by decide +kernel
theorem dX6_go_118 : decode cX6_go 118 = .ok (.iaload, 1) := by decide +kernel
theorem dX6_go_119 : decode cX6_go 119 = .ok (.istore_n 1, 1) := by decide +kernel
theorem dX6_go_120 : decode cX6_go 120 = .ok (.iload_n 1, 1) := by decide +kernel
theorem dX6_go_121 : decode cX6_go 121 = .ok (.invokestatic 124, 3) := by decide +kernel
theorem dX6_go_124 : decode cX6_go 124 = .ok (.ifCond .ne 36, 3) := by decide +kernel
theorem dX6_go_127 : decode cX6_go 127 = .ok (.iload_n 1, 1) := by decide +kernel
theorem dX6_go_128 : decode cX6_go 128 = .ok (.invokestatic 128, 3) := by decide +kernel
theorem dX6_go_131 : decode cX6_go 131 = .ok (.ifCond .ne 29, 3) := by decide +kernel
theorem dX6_go_134 : decode cX6_go 134 = .ok (.aload_n 0, 1) := by decide +kernel
theorem dX6_go_135 : decode cX6_go 135 = .ok (.iload_n 1, 1) := by decide +kernel
theorem dX6_go_136 : decode cX6_go 136 = .ok (.bipush 59, 2) := by decide +kernel
theorem dX6_go_138 : decode cX6_go 138 = .ok (.if_icmp .ne 7, 3) := by decide +kernel
theorem dX6_go_141 : decode cX6_go 141 = .ok (.iconst 4, 1) := by decide +kernel
theorem dX6_go_142 : decode cX6_go 142 = .ok (.goto 4, 3) := by decide +kernel
theorem dX6_go_145 : decode cX6_go 145 = .ok (.iconst 1, 1) := by decide +kernel
theorem dX6_go_146 : decode cX6_go 146 = .ok (.putfield 121, 3) := by decide +kernel
theorem dX6_go_149 : decode cX6_go 149 = .ok (.aload_n 0, 1) := by decide +kernel
theorem dX6_go_150 : decode cX6_go 150 = .ok (.dup, 1) := by decide +kernel
theorem dX6_go_151 : decode cX6_go 151 = .ok (.getfield 115, 3) := by decide +kernel
theorem dX6_go_154 : decode cX6_go 154 = .ok (.iconst 1, 1) := by decide +kernel
theorem dX6_go_155 : decode cX6_go 155 = .ok (.iadd, 1) := by decide +kernel
theorem dX6_go_156 : decode cX6_go 156 = .ok (.putfield 115, 3) := by decide +kernel
theorem dX6_go_159 : decode cX6_go 159 = .ok (.return_, 1) := by decide +kernel
theorem dX6_go_160 : decode cX6_go 160 = .ok (.iload_n 1, 1) := by decide +kernel
theorem dX6_go_161 : decode cX6_go 161 = .ok (.invokestatic 124, 3) := by decide +kernel
theorem dX6_go_164 : decode cX6_go 164 = .ok (.istore_n 2, 1) := by decide +kernel
theorem dX6_go_165 : decode cX6_go 165 = .ok (.iconst 1, 1) := by decide +kernel
theorem dX6_go_166 : decode cX6_go 166 = .ok (.istore_n 3, 1) := by decide +kernel
theorem dX6_go_167 : decode cX6_go 167 = .ok (.aload_n 0, 1) := by decide +kernel
theorem dX6_go_168 : decode cX6_go 168 = .ok (.lconst 0, 1) := by decide +kernel
theorem dX6_go_169 : decode cX6_go 169 = .ok (.putfield 131, 3) := by decide +kernel
theorem dX6_go_172 : decode cX6_go 172 = .ok (.aload_n 0, 1) := by decide +kernel
theorem dX6_go_173 : decode cX6_go 173 = .ok (.iconst 0, 1) := by decide +kernel
theorem dX6_go_174 : decode cX6_go 174 = .ok (.putfield 135, 3) := by decide +kernel
theorem dX6_go_177 : decode cX6_go 177 = .ok (.aload_n 0, 1) := by decide +kernel
theorem dX6_go_178 : decode cX6_go 178 = .ok (.aload_n 0, 1) := by decide +kernel
theorem dX6_go_179 : decode cX6_go 179 = .ok (.getfield 115, 3) := by decide +kernel
theorem dX6_go_182 : decode cX6_go 182 = .ok (.invokevirtual 138, 3) := by decide +kernel
theorem dX6_go_185 : decode cX6_go 185 = .ok (.invokestatic 124, 3) := by decide +kernel
theorem dX6_go_188 : decode cX6_go 188 = .ok (.ifCond .ne 17, 3) := by decide +kernel
theorem dX6_go_191 : decode cX6_go 191 = .ok (.aload_n 0, 1) := by decide +kernel
theorem dX6_go_192 : decode cX6_go 192 = .ok (.aload_n 0, 1) := by decide +kernel
theorem dX6_go_193 : decode cX6_go 193 = .ok (.getfield 115, 3) := by decide +kernel
theorem dX6_go_196 : decode cX6_go 196 = .ok (.invokevirtual 138, 3) := by decide +kernel
theorem dX6_go_199 : decode cX6_go 199 = .ok (.invokestatic 128, 3) := by decide +kernel
theorem dX6_go_202 : decode cX6_go 202 = .ok (.ifCond .eq 116, 3) := by decide +kernel
theorem dX6_go_205 : decode cX6_go 205 = .ok (.aload_n 0, 1) := by decide +kernel
theorem dX6_go_206 : decode cX6_go 206 = .ok (.getfield 7, 3) := by decide +kernel
theorem dX6_go_209 : decode cX6_go 209 = .ok (.aload_n 0, 1) := by decide +kernel
theorem dX6_go_210 : decode cX6_go 210 = .ok (.getfield 115, 3) := by decide +kernel
theorem dX6_go_213 : decode cX6_go 213 = .ok (.iaload, 1) := by decide +kernel
theorem dX6_go_214 : decode cX6_go 214 = .ok (.istore 4, 2) := by decide +kernel
theorem dX6_go_216 : decode cX6_go 216 = .ok (.iload_n 3, 1) := by decide +kernel
theorem dX6_go_217 : decode cX6_go 217 = .ok (.ifCond .eq 16, 3) := by decide +kernel
theorem dX6_go_220 : decode cX6_go 220 = .ok (.iload 4, 2) := by decide +kernel
theorem dX6_go_222 : decode cX6_go 222 = .ok (.invokestatic 124, 3) := by decide +kernel
theorem dX6_go_225 : decode cX6_go 225 = .ok (.iload_n 2, 1) := by decide +kernel
theorem dX6_go_226 : decode cX6_go 226 = .ok (.if_icmp .ne 7, 3) := by decide +kernel
theorem dX6_go_229 : decode cX6_go 229 = .ok (.iconst 1, 1) := by decide +kernel
theorem dX6_go_230 : decode cX6_go 230 = .ok (.goto 4, 3) := by decide +kernel
theorem dX6_go_233 : decode cX6_go 233 = .ok (.iconst 0, 1) := by decide +kernel
theorem dX6_go_234 : decode cX6_go 234 = .ok (.istore_n 3, 1) := by decide +kernel
theorem dX6_go_235 : decode cX6_go 235 = .ok (.aload_n 0, 1) := by decide +kernel
theorem dX6_go_236 : decode cX6_go 236 = .ok (.aload_n 0, 1) := by decide +kernel
theorem dX6_go_237 : decode cX6_go 237 = .ok (.getfield 115, 3) := by decide +kernel
theorem dX6_go_240 : decode cX6_go 240 = .ok (.aload_n 0, 1) := by decide +kernel
theorem dX6_go_241 : decode cX6_go 241 = .ok (.getfield 118, 3) := by decide +kernel
theorem dX6_go_244 : decode cX6_go 244 = .ok (.isub, 1) := by decide +kernel
theorem dX6_go_245 : decode cX6_go 245 = .ok (.bipush 6, 2) := by decide +kernel
theorem dX6_go_247 : decode cX6_go 247 = .ok (.if_icmp .ge 22, 3) := by decide +kernel
theorem dX6_go_250 : decode cX6_go 250 = .ok (.ldc2_w 142, 3) := by decide +kernel
theorem dX6_go_253 : decode cX6_go 253 = .ok (.aload_n 0, 1) := by decide +kernel
theorem dX6_go_254 : decode cX6_go 254 = .ok (.getfield 131, 3) := by decide +kernel
theorem dX6_go_257 : decode cX6_go 257 = .ok (.lmul, 1) := by decide +kernel
theorem dX6_go_258 : decode cX6_go 258 = .ok (.iload 4, 2) := by decide +kernel
theorem dX6_go_260 : decode cX6_go 260 = .ok (.i2l, 1) := by decide +kernel
theorem dX6_go_261 : decode cX6_go 261 = .ok (.ladd, 1) := by decide +kernel
theorem dX6_go_262 : decode cX6_go 262 = .ok (.ldc2_w 144, 3) := by decide +kernel
theorem dX6_go_265 : decode cX6_go 265 = .ok (.lsub, 1) := by decide +kernel
theorem dX6_go_266 : decode cX6_go 266 = .ok (.goto 6, 3) := by decide +kernel
theorem dX6_go_269 : decode cX6_go 269 = .ok (.ldc2_w 146, 3) := by decide +kernel
theorem dX6_go_272 : decode cX6_go 272 = .ok (.putfield 131, 3) := by decide +kernel
theorem dX6_go_275 : decode cX6_go 275 = .ok (.aload_n 0, 1) := by decide +kernel
theorem dX6_go_276 : decode cX6_go 276 = .ok (.getfield 115, 3) := by decide +kernel
theorem dX6_go_279 : decode cX6_go 279 = .ok (.aload_n 0, 1) := by decide +kernel
theorem dX6_go_280 : decode cX6_go 280 = .ok (.getfield 118, 3) := by decide +kernel
theorem dX6_go_283 : decode cX6_go 283 = .ok (.isub, 1) := by decide +kernel
theorem dX6_go_284 : decode cX6_go 284 = .ok (.iconst 3, 1) := by decide +kernel
theorem dX6_go_285 : decode cX6_go 285 = .ok (.if_icmp .ge 20, 3) := by decide +kernel
theorem dX6_go_288 : decode cX6_go 288 = .ok (.aload_n 0, 1) := by decide +kernel
theorem dX6_go_289 : decode cX6_go 289 = .ok (.bipush 10, 2) := by decide +kernel
theorem dX6_go_291 : decode cX6_go 291 = .ok (.aload_n 0, 1) := by decide +kernel
theorem dX6_go_292 : decode cX6_go 292 = .ok (.getfield 135, 3) := by decide +kernel
theorem dX6_go_295 : decode cX6_go 295 = .ok (.imul, 1) := by decide +kernel
theorem dX6_go_296 : decode cX6_go 296 = .ok (.iload 4, 2) := by decide +kernel
theorem dX6_go_298 : decode cX6_go 298 = .ok (.iadd, 1) := by decide +kernel
theorem dX6_go_299 : decode cX6_go 299 = .ok (.bipush 48, 2) := by decide +kernel
theorem dX6_go_301 : decode cX6_go 301 = .ok (.isub, 1) := by decide +kernel
theorem dX6_go_302 : decode cX6_go 302 = .ok (.putfield 135, 3) := by decide +kernel
theorem dX6_go_305 : decode cX6_go 305 = .ok (.aload_n 0, 1) := by decide +kernel
theorem dX6_go_306 : decode cX6_go 306 = .ok (.dup, 1) := by decide +kernel
theorem dX6_go_307 : decode cX6_go 307 = .ok (.getfield 115, 3) := by decide +kernel
theorem dX6_go_310 : decode cX6_go 310 = .ok (.iconst 1, 1) := by decide +kernel
theorem dX6_go_311 : decode cX6_go 311 = .ok (.iadd, 1) := by decide +kernel
theorem dX6_go_312 : decode cX6_go 312 = .ok (.putfield 115, 3) := by decide +kernel
theorem dX6_go_315 : decode cX6_go 315 = .ok (.goto (-138), 3) := by decide +kernel
theorem dX6_go_318 : decode cX6_go 318 = .ok (.aload_n 0, 1) := by decide +kernel
theorem dX6_go_319 : decode cX6_go 319 = .ok (.iload_n 3, 1) := by decide +kernel
theorem dX6_go_320 : decode cX6_go 320 = .ok (.ifCond .eq 20, 3) := by decide +kernel
theorem dX6_go_323 : decode cX6_go 323 = .ok (.iload_n 2, 1) := by decide +kernel
theorem dX6_go_324 : decode cX6_go 324 = .ok (.ifCond .ne 20, 3) := by decide +kernel
theorem dX6_go_327 : decode cX6_go 327 = .ok (.aload_n 0, 1) := by decide +kernel
theorem dX6_go_328 : decode cX6_go 328 = .ok (.getfield 115, 3) := by decide +kernel
theorem dX6_go_331 : decode cX6_go 331 = .ok (.aload_n 0, 1) := by decide +kernel
theorem dX6_go_332 : decode cX6_go 332 = .ok (.getfield 118, 3) := by decide +kernel
theorem dX6_go_335 : decode cX6_go 335 = .ok (.isub, 1) := by decide +kernel
theorem dX6_go_336 : decode cX6_go 336 = .ok (.iconst 3, 1) := by decide +kernel
theorem dX6_go_337 : decode cX6_go 337 = .ok (.if_icmp .le 7, 3) := by decide +kernel
theorem dX6_go_340 : decode cX6_go 340 = .ok (.iconst 1, 1) := by decide +kernel
theorem dX6_go_341 : decode cX6_go 341 = .ok (.goto 12, 3) := by decide +kernel
theorem dX6_go_344 : decode cX6_go 344 = .ok (.iload_n 2, 1) := by decide +kernel
theorem dX6_go_345 : decode cX6_go 345 = .ok (.ifCond .eq 7, 3) := by decide +kernel
theorem dX6_go_348 : decode cX6_go 348 = .ok (.iconst 2, 1) := by decide +kernel
theorem dX6_go_349 : decode cX6_go 349 = .ok (.goto 4, 3) := by decide +kernel
theorem dX6_go_352 : decode cX6_go 352 = .ok (.iconst 3, 1) := by decide +kernel
theorem dX6_go_353 : decode cX6_go 353 = .ok (.putfield 121, 3) := by decide +kernel
theorem dX6_go_356 : decode cX6_go 356 = .ok (.return_, 1) := by decide +kernel
theorem dX6_spelt_0 : decode cX6_spelt 0 = .ok (.ldc2_w 142, 3) := by decide +kernel
theorem dX6_spelt_3 : decode cX6_spelt 3 = .ok (.iload_n 0, 1) := by decide +kernel
theorem dX6_spelt_4 : decode cX6_spelt 4 = .ok (.i2l, 1) := by decide +kernel
theorem dX6_spelt_5 : decode cX6_spelt 5 = .ok (.ldc2_w 144, 3) := by decide +kernel
theorem dX6_spelt_8 : decode cX6_spelt 8 = .ok (.lsub, 1) := by decide +kernel
theorem dX6_spelt_9 : decode cX6_spelt 9 = .ok (.lmul, 1) := by decide +kernel
theorem dX6_spelt_10 : decode cX6_spelt 10 = .ok (.iload_n 1, 1) := by decide +kernel
theorem dX6_spelt_11 : decode cX6_spelt 11 = .ok (.i2l, 1) := by decide +kernel
theorem dX6_spelt_12 : decode cX6_spelt 12 = .ok (.ladd, 1) := by decide +kernel
theorem dX6_spelt_13 : decode cX6_spelt 13 = .ok (.ldc2_w 144, 3) := by decide +kernel
theorem dX6_spelt_16 : decode cX6_spelt 16 = .ok (.lsub, 1) := by decide +kernel
theorem dX6_spelt_17 : decode cX6_spelt 17 = .ok (.lstore 4, 2) := by decide +kernel
theorem dX6_spelt_19 : decode cX6_spelt 19 = .ok (.iload_n 2, 1) := by decide +kernel
theorem dX6_spelt_20 : decode cX6_spelt 20 = .ok (.ifCond .le 18, 3) := by decide +kernel
theorem dX6_spelt_23 : decode cX6_spelt 23 = .ok (.ldc2_w 142, 3) := by decide +kernel
theorem dX6_spelt_26 : decode cX6_spelt 26 = .ok (.lload 4, 2) := by decide +kernel
theorem dX6_spelt_28 : decode cX6_spelt 28 = .ok (.lmul, 1) := by decide +kernel
theorem dX6_spelt_29 : decode cX6_spelt 29 = .ok (.iload_n 2, 1) := by decide +kernel
theorem dX6_spelt_30 : decode cX6_spelt 30 = .ok (.i2l, 1) := by decide +kernel
theorem dX6_spelt_31 : decode cX6_spelt 31 = .ok (.ladd, 1) := by decide +kernel
theorem dX6_spelt_32 : decode cX6_spelt 32 = .ok (.ldc2_w 144, 3) := by decide +kernel
theorem dX6_spelt_35 : decode cX6_spelt 35 = .ok (.lsub, 1) := by decide +kernel
theorem dX6_spelt_36 : decode cX6_spelt 36 = .ok (.lstore 4, 2) := by decide +kernel
theorem dX6_spelt_38 : decode cX6_spelt 38 = .ok (.iload_n 3, 1) := by decide +kernel
theorem dX6_spelt_39 : decode cX6_spelt 39 = .ok (.ifCond .le 19, 3) := by decide +kernel
theorem dX6_spelt_42 : decode cX6_spelt 42 = .ok (.ldc2_w 142, 3) := by decide +kernel
theorem dX6_spelt_45 : decode cX6_spelt 45 = .ok (.lload 4, 2) := by decide +kernel
theorem dX6_spelt_47 : decode cX6_spelt 47 = .ok (.lmul, 1) := by decide +kernel
theorem dX6_spelt_48 : decode cX6_spelt 48 = .ok (.iload_n 3, 1) := by decide +kernel
theorem dX6_spelt_49 : decode cX6_spelt 49 = .ok (.i2l, 1) := by decide +kernel
theorem dX6_spelt_50 : decode cX6_spelt 50 = .ok (.ladd, 1) := by decide +kernel
theorem dX6_spelt_51 : decode cX6_spelt 51 = .ok (.ldc2_w 144, 3) := by decide +kernel
theorem dX6_spelt_54 : decode cX6_spelt 54 = .ok (.lsub, 1) := by decide +kernel
theorem dX6_spelt_55 : decode cX6_spelt 55 = .ok (.goto 5, 3) := by decide +kernel
theorem dX6_spelt_58 : decode cX6_spelt 58 = .ok (.lload 4, 2) := by decide +kernel
theorem dX6_spelt_60 : decode cX6_spelt 60 = .ok (.lreturn, 1) := by decide +kernel
theorem dX6_isKey_0 : decode cX6_isKey 0 = .ok (.aload_n 0, 1) := by decide +kernel
theorem dX6_isKey_1 : decode cX6_isKey 1 = .ok (.getfield 121, 3) := by decide +kernel
theorem dX6_isKey_4 : decode cX6_isKey 4 = .ok (.iconst 2, 1) := by decide +kernel
theorem dX6_isKey_5 : decode cX6_isKey 5 = .ok (.if_icmp .ne 16, 3) := by decide +kernel
theorem dX6_isKey_8 : decode cX6_isKey 8 = .ok (.aload_n 0, 1) := by decide +kernel
theorem dX6_isKey_9 : decode cX6_isKey 9 = .ok (.getfield 131, 3) := by decide +kernel
theorem dX6_isKey_12 : decode cX6_isKey 12 = .ok (.lload_n 1, 1) := by decide +kernel
theorem dX6_isKey_13 : decode cX6_isKey 13 = .ok (.lcmp, 1) := by decide +kernel
theorem dX6_isKey_14 : decode cX6_isKey 14 = .ok (.ifCond .ne 7, 3) := by decide +kernel
theorem dX6_isKey_17 : decode cX6_isKey 17 = .ok (.iconst 1, 1) := by decide +kernel
theorem dX6_isKey_18 : decode cX6_isKey 18 = .ok (.goto 4, 3) := by decide +kernel
theorem dX6_isKey_21 : decode cX6_isKey 21 = .ok (.iconst 0, 1) := by decide +kernel
theorem dX6_isKey_22 : decode cX6_isKey 22 = .ok (.ireturn, 1) := by decide +kernel
theorem dX6_ruleAtHand_0 : decode cX6_ruleAtHand 0 = .ok (.aload_n 0, 1) := by decide +kernel
theorem dX6_ruleAtHand_1 : decode cX6_ruleAtHand 1 = .ok (.bipush 114, 2) := by decide +kernel
theorem dX6_ruleAtHand_3 : decode cX6_ruleAtHand 3 = .ok (.bipush 111, 2) := by decide +kernel
theorem dX6_ruleAtHand_5 : decode cX6_ruleAtHand 5 = .ok (.bipush 119, 2) := by decide +kernel
theorem dX6_ruleAtHand_7 : decode cX6_ruleAtHand 7 = .ok (.iconst 0, 1) := by decide +kernel
theorem dX6_ruleAtHand_8 : decode cX6_ruleAtHand 8 = .ok (.invokestatic 148, 3) := by decide +kernel
theorem dX6_ruleAtHand_11 : decode cX6_ruleAtHand 11 = .ok (.invokevirtual 152, 3) := by decide +kernel
theorem dX6_ruleAtHand_14 : decode cX6_ruleAtHand 14 = .ok (.ifCond .eq 5, 3) := by decide +kernel
theorem dX6_ruleAtHand_17 : decode cX6_ruleAtHand 17 = .ok (.iconst 0, 1) := by decide +kernel
theorem dX6_ruleAtHand_18 : decode cX6_ruleAtHand 18 = .ok (.ireturn, 1) := by decide +kernel
theorem dX6_ruleAtHand_19 : decode cX6_ruleAtHand 19 = .ok (.aload_n 0, 1) := by decide +kernel
theorem dX6_ruleAtHand_20 : decode cX6_ruleAtHand 20 = .ok (.ldc2_w 142, 3) := by decide +kernel
theorem dX6_ruleAtHand_23 : decode cX6_ruleAtHand 23 = .ok (.bipush 97, 2) := by decide +kernel
theorem dX6_ruleAtHand_25 : decode cX6_ruleAtHand 25 = .ok (.bipush 103, 2) := by decide +kernel
theorem dX6_ruleAtHand_27 : decode cX6_ruleAtHand 27 = .ok (.bipush 97, 2) := by decide +kernel
theorem dX6_ruleAtHand_29 : decode cX6_ruleAtHand 29 = .ok (.bipush 105, 2) := by decide +kernel
theorem dX6_ruleAtHand_31 : decode cX6_ruleAtHand 31 = .ok (.invokestatic 148, 3) := by decide +kernel
theorem dX6_ruleAtHand_34 : decode cX6_ruleAtHand 34 = .ok (.lmul, 1) := by decide +kernel
theorem dX6_ruleAtHand_35 : decode cX6_ruleAtHand 35 = .ok (.ldc2_w 156, 3) := by decide +kernel
theorem dX6_ruleAtHand_38 : decode cX6_ruleAtHand 38 = .ok (.ladd, 1) := by decide +kernel
theorem dX6_ruleAtHand_39 : decode cX6_ruleAtHand 39 = .ok (.invokevirtual 152, 3) := by decide +kernel
theorem dX6_ruleAtHand_42 : decode cX6_ruleAtHand 42 = .ok (.ifCond .eq 5, 3) := by decide +kernel
theorem dX6_ruleAtHand_45 : decode cX6_ruleAtHand 45 = .ok (.iconst 1, 1) := by decide +kernel
theorem dX6_ruleAtHand_46 : decode cX6_ruleAtHand 46 = .ok (.ireturn, 1) := by decide +kernel
theorem dX6_ruleAtHand_47 : decode cX6_ruleAtHand 47 = .ok (.aload_n 0, 1) := by decide +kernel
theorem dX6_ruleAtHand_48 : decode cX6_ruleAtHand 48 = .ok (.bipush 102, 2) := by decide +kernel
theorem dX6_ruleAtHand_50 : decode cX6_ruleAtHand 50 = .ok (.bipush 97, 2) := by decide +kernel
theorem dX6_ruleAtHand_52 : decode cX6_ruleAtHand 52 = .ok (.bipush 114, 2) := by decide +kernel
theorem dX6_ruleAtHand_54 : decode cX6_ruleAtHand 54 = .ok (.iconst 0, 1) := by decide +kernel
theorem dX6_ruleAtHand_55 : decode cX6_ruleAtHand 55 = .ok (.invokestatic 148, 3) := by decide +kernel
theorem dX6_ruleAtHand_58 : decode cX6_ruleAtHand 58 = .ok (.invokevirtual 152, 3) := by decide +kernel
theorem dX6_ruleAtHand_61 : decode cX6_ruleAtHand 61 = .ok (.ifCond .eq 5, 3) := by decide +kernel
theorem dX6_ruleAtHand_64 : decode cX6_ruleAtHand 64 = .ok (.iconst 2, 1) := by decide +kernel
theorem dX6_ruleAtHand_65 : decode cX6_ruleAtHand 65 = .ok (.ireturn, 1) := by decide +kernel
theorem dX6_ruleAtHand_66 : decode cX6_ruleAtHand 66 = .ok (.aload_n 0, 1) := by decide +kernel
theorem dX6_ruleAtHand_67 : decode cX6_ruleAtHand 67 = .ok (.bipush 102, 2) := by decide +kernel
theorem dX6_ruleAtHand_69 : decode cX6_ruleAtHand 69 = .ok (.bipush 97, 2) := by decide +kernel
theorem dX6_ruleAtHand_71 : decode cX6_ruleAtHand 71 = .ok (.bipush 105, 2) := by decide +kernel
theorem dX6_ruleAtHand_73 : decode cX6_ruleAtHand 73 = .ok (.bipush 114, 2) := by decide +kernel
theorem dX6_ruleAtHand_75 : decode cX6_ruleAtHand 75 = .ok (.invokestatic 148, 3) := by decide +kernel
theorem dX6_ruleAtHand_78 : decode cX6_ruleAtHand 78 = .ok (.invokevirtual 152, 3) := by decide +kernel
theorem dX6_ruleAtHand_81 : decode cX6_ruleAtHand 81 = .ok (.ifCond .eq 5, 3) := by decide +kernel
theorem dX6_ruleAtHand_84 : decode cX6_ruleAtHand 84 = .ok (.iconst 3, 1) := by decide +kernel
theorem dX6_ruleAtHand_85 : decode cX6_ruleAtHand 85 = .ok (.ireturn, 1) := by decide +kernel
theorem dX6_ruleAtHand_86 : decode cX6_ruleAtHand 86 = .ok (.aload_n 0, 1) := by decide +kernel
theorem dX6_ruleAtHand_87 : decode cX6_ruleAtHand 87 = .ok (.bipush 119, 2) := by decide +kernel
theorem dX6_ruleAtHand_89 : decode cX6_ruleAtHand 89 = .ok (.bipush 111, 2) := by decide +kernel
theorem dX6_ruleAtHand_91 : decode cX6_ruleAtHand 91 = .ok (.bipush 110, 2) := by decide +kernel
theorem dX6_ruleAtHand_93 : decode cX6_ruleAtHand 93 = .ok (.iconst 0, 1) := by decide +kernel
theorem dX6_ruleAtHand_94 : decode cX6_ruleAtHand 94 = .ok (.invokestatic 148, 3) := by decide +kernel
theorem dX6_ruleAtHand_97 : decode cX6_ruleAtHand 97 = .ok (.invokevirtual 152, 3) := by decide +kernel
theorem dX6_ruleAtHand_100 : decode cX6_ruleAtHand 100 = .ok (.ifCond .eq 5, 3) := by decide +kernel
theorem dX6_ruleAtHand_103 : decode cX6_ruleAtHand 103 = .ok (.iconst 4, 1) := by decide +kernel
theorem dX6_ruleAtHand_104 : decode cX6_ruleAtHand 104 = .ok (.ireturn, 1) := by decide +kernel
theorem dX6_ruleAtHand_105 : decode cX6_ruleAtHand 105 = .ok (.aload_n 0, 1) := by decide +kernel
theorem dX6_ruleAtHand_106 : decode cX6_ruleAtHand 106 = .ok (.bipush 108, 2) := by decide +kernel
theorem dX6_ruleAtHand_108 : decode cX6_ruleAtHand 108 = .ok (.bipush 111, 2) := by decide +kernel
theorem dX6_ruleAtHand_110 : decode cX6_ruleAtHand 110 = .ok (.bipush 115, 2) := by decide +kernel
theorem dX6_ruleAtHand_112 : decode cX6_ruleAtHand 112 = .ok (.bipush 116, 2) := by decide +kernel
theorem dX6_ruleAtHand_114 : decode cX6_ruleAtHand 114 = .ok (.invokestatic 148, 3) := by decide +kernel
theorem dX6_ruleAtHand_117 : decode cX6_ruleAtHand 117 = .ok (.invokevirtual 152, 3) := by decide +kernel
theorem dX6_ruleAtHand_120 : decode cX6_ruleAtHand 120 = .ok (.ifCond .eq 5, 3) := by decide +kernel
theorem dX6_ruleAtHand_123 : decode cX6_ruleAtHand 123 = .ok (.iconst 5, 1) := by decide +kernel
theorem dX6_ruleAtHand_124 : decode cX6_ruleAtHand 124 = .ok (.ireturn, 1) := by decide +kernel
theorem dX6_ruleAtHand_125 : decode cX6_ruleAtHand 125 = .ok (.aload_n 0, 1) := by decide +kernel
theorem dX6_ruleAtHand_126 : decode cX6_ruleAtHand 126 = .ok (.bipush 117, 2) := by decide +kernel
theorem dX6_ruleAtHand_128 : decode cX6_ruleAtHand 128 = .ok (.bipush 112, 2) := by decide +kernel
theorem dX6_ruleAtHand_130 : decode cX6_ruleAtHand 130 = .ok (.iconst 0, 1) := by decide +kernel
theorem dX6_ruleAtHand_131 : decode cX6_ruleAtHand 131 = .ok (.iconst 0, 1) := by decide +kernel
theorem dX6_ruleAtHand_132 : decode cX6_ruleAtHand 132 = .ok (.invokestatic 148, 3) := by decide +kernel
theorem dX6_ruleAtHand_135 : decode cX6_ruleAtHand 135 = .ok (.invokevirtual 152, 3) := by decide +kernel
theorem dX6_ruleAtHand_138 : decode cX6_ruleAtHand 138 = .ok (.ifCond .eq 6, 3) := by decide +kernel
theorem dX6_ruleAtHand_141 : decode cX6_ruleAtHand 141 = .ok (.bipush 6, 2) := by decide +kernel
theorem dX6_ruleAtHand_143 : decode cX6_ruleAtHand 143 = .ok (.ireturn, 1) := by decide +kernel
theorem dX6_ruleAtHand_144 : decode cX6_ruleAtHand 144 = .ok (.aload_n 0, 1) := by decide +kernel
theorem dX6_ruleAtHand_145 : decode cX6_ruleAtHand 145 = .ok (.bipush 100, 2) := by decide +kernel
theorem dX6_ruleAtHand_147 : decode cX6_ruleAtHand 147 = .ok (.bipush 111, 2) := by decide +kernel
theorem dX6_ruleAtHand_149 : decode cX6_ruleAtHand 149 = .ok (.bipush 119, 2) := by decide +kernel
theorem dX6_ruleAtHand_151 : decode cX6_ruleAtHand 151 = .ok (.bipush 110, 2) := by decide +kernel
theorem dX6_ruleAtHand_153 : decode cX6_ruleAtHand 153 = .ok (.invokestatic 148, 3) := by decide +kernel
theorem dX6_ruleAtHand_156 : decode cX6_ruleAtHand 156 = .ok (.invokevirtual 152, 3) := by decide +kernel
theorem dX6_ruleAtHand_159 : decode cX6_ruleAtHand 159 = .ok (.ifCond .eq 6, 3) := by decide +kernel
theorem dX6_ruleAtHand_162 : decode cX6_ruleAtHand 162 = .ok (.bipush 7, 2) := by decide +kernel
theorem dX6_ruleAtHand_164 : decode cX6_ruleAtHand 164 = .ok (.ireturn, 1) := by decide +kernel
theorem dX6_ruleAtHand_165 : decode cX6_ruleAtHand 165 = .ok (.aload_n 0, 1) := by decide +kernel
theorem dX6_ruleAtHand_166 : decode cX6_ruleAtHand 166 = .ok (.bipush 111, 2) := by decide +kernel
theorem dX6_ruleAtHand_168 : decode cX6_ruleAtHand 168 = .ok (.bipush 102, 2) := by decide +kernel
theorem dX6_ruleAtHand_170 : decode cX6_ruleAtHand 170 = .ok (.iconst 0, 1) := by decide +kernel
theorem dX6_ruleAtHand_171 : decode cX6_ruleAtHand 171 = .ok (.iconst 0, 1) := by decide +kernel
theorem dX6_ruleAtHand_172 : decode cX6_ruleAtHand 172 = .ok (.invokestatic 148, 3) := by decide +kernel
theorem dX6_ruleAtHand_175 : decode cX6_ruleAtHand 175 = .ok (.invokevirtual 152, 3) := by decide +kernel
theorem dX6_ruleAtHand_178 : decode cX6_ruleAtHand 178 = .ok (.ifCond .eq 8, 3) := by decide +kernel
theorem dX6_ruleAtHand_181 : decode cX6_ruleAtHand 181 = .ok (.bipush 8, 2) := by decide +kernel
theorem dX6_ruleAtHand_183 : decode cX6_ruleAtHand 183 = .ok (.goto 4, 3) := by decide +kernel
theorem dX6_ruleAtHand_186 : decode cX6_ruleAtHand 186 = .ok (.iconst (-1), 1) := by decide +kernel
theorem dX6_ruleAtHand_187 : decode cX6_ruleAtHand 187 = .ok (.ireturn, 1) := by decide +kernel
theorem dX6_bad_0 : decode cX6_bad 0 = .ok (.aload_n 0, 1) := by decide +kernel
theorem dX6_bad_1 : decode cX6_bad 1 = .ok (.aload_n 0, 1) := by decide +kernel
theorem dX6_bad_2 : decode cX6_bad 2 = .ok (.getfield 121, 3) := by decide +kernel
theorem dX6_bad_5 : decode cX6_bad 5 = .ok (.iconst 1, 1) := by decide +kernel
theorem dX6_bad_6 : decode cX6_bad 6 = .ok (.if_icmp .ne 7, 3) := by decide +kernel
theorem dX6_bad_9 : decode cX6_bad 9 = .ok (.iconst 1, 1) := by decide +kernel
theorem dX6_bad_10 : decode cX6_bad 10 = .ok (.goto 4, 3) := by decide +kernel
theorem dX6_bad_13 : decode cX6_bad 13 = .ok (.iload_n 1, 1) := by decide +kernel
theorem dX6_bad_14 : decode cX6_bad 14 = .ok (.putfield 158, 3) := by decide +kernel
theorem dX6_bad_17 : decode cX6_bad 17 = .ok (.aload_n 0, 1) := by decide +kernel
theorem dX6_bad_18 : decode cX6_bad 18 = .ok (.aload_n 0, 1) := by decide +kernel
theorem dX6_bad_19 : decode cX6_bad 19 = .ok (.getfield 118, 3) := by decide +kernel
theorem dX6_bad_22 : decode cX6_bad 22 = .ok (.putfield 161, 3) := by decide +kernel
theorem dX6_bad_25 : decode cX6_bad 25 = .ok (.iconst 0, 1) := by decide +kernel
theorem dX6_bad_26 : decode cX6_bad 26 = .ok (.ireturn, 1) := by decide +kernel
theorem dX6_readRule_0 : decode cX6_readRule 0 = .ok (.aload_n 0, 1) := by decide +kernel
theorem dX6_readRule_1 : decode cX6_readRule 1 = .ok (.invokevirtual 164, 3) := by decide +kernel
theorem dX6_readRule_4 : decode cX6_readRule 4 = .ok (.istore_n 1, 1) := by decide +kernel
theorem dX6_readRule_5 : decode cX6_readRule 5 = .ok (.iload_n 1, 1) := by decide +kernel
theorem dX6_readRule_6 : decode cX6_readRule 6 = .ok (.iconst (-1), 1) := by decide +kernel
theorem dX6_readRule_7 : decode cX6_readRule 7 = .ok (.if_icmp .ne 9, 3) := by decide +kernel
theorem dX6_readRule_10 : decode cX6_readRule 10 = .ok (.aload_n 0, 1) := by decide +kernel
theorem dX6_readRule_11 : decode cX6_readRule 11 = .ok (.iconst 1, 1) := by decide +kernel
theorem dX6_readRule_12 : decode cX6_readRule 12 = .ok (.invokevirtual 168, 3) := by decide +kernel
theorem dX6_readRule_15 : decode cX6_readRule 15 = .ok (.ireturn, 1) := by decide +kernel
theorem dX6_readRule_16 : decode cX6_readRule 16 = .ok (.aload_n 0, 1) := by decide +kernel
theorem dX6_readRule_17 : decode cX6_readRule 17 = .ok (.getfield 171, 3) := by decide +kernel
theorem dX6_readRule_20 : decode cX6_readRule 20 = .ok (.iload_n 1, 1) := by decide +kernel
theorem dX6_readRule_21 : decode cX6_readRule 21 = .ok (.ishr, 1) := by decide +kernel
theorem dX6_readRule_22 : decode cX6_readRule 22 = .ok (.iconst 1, 1) := by decide +kernel
theorem dX6_readRule_23 : decode cX6_readRule 23 = .ok (.iand, 1) := by decide +kernel
theorem dX6_readRule_24 : decode cX6_readRule 24 = .ok (.iconst 1, 1) := by decide +kernel
theorem dX6_readRule_25 : decode cX6_readRule 25 = .ok (.if_icmp .ne 9, 3) := by decide +kernel
theorem dX6_readRule_28 : decode cX6_readRule 28 = .ok (.aload_n 0, 1) := by decide +kernel
theorem dX6_readRule_29 : decode cX6_readRule 29 = .ok (.iconst 3, 1) := by decide +kernel
theorem dX6_readRule_30 : decode cX6_readRule 30 = .ok (.invokevirtual 168, 3) := by decide +kernel
theorem dX6_readRule_33 : decode cX6_readRule 33 = .ok (.ireturn, 1) := by decide +kernel
theorem dX6_readRule_34 : decode cX6_readRule 34 = .ok (.aload_n 0, 1) := by decide +kernel
theorem dX6_readRule_35 : decode cX6_readRule 35 = .ok (.invokevirtual 174, 3) := by decide +kernel
theorem dX6_readRule_38 : decode cX6_readRule 38 = .ok (.aload_n 0, 1) := by decide +kernel
theorem dX6_readRule_39 : decode cX6_readRule 39 = .ok (.getfield 121, 3) := by decide +kernel
theorem dX6_readRule_42 : decode cX6_readRule 42 = .ok (.iconst 3, 1) := by decide +kernel
theorem dX6_readRule_43 : decode cX6_readRule 43 = .ok (.if_icmp .eq 9, 3) := by decide +kernel
theorem dX6_readRule_46 : decode cX6_readRule 46 = .ok (.aload_n 0, 1) := by decide +kernel
theorem dX6_readRule_47 : decode cX6_readRule 47 = .ok (.iconst 1, 1) := by decide +kernel
theorem dX6_readRule_48 : decode cX6_readRule 48 = .ok (.invokevirtual 168, 3) := by decide +kernel
theorem dX6_readRule_51 : decode cX6_readRule 51 = .ok (.ireturn, 1) := by decide +kernel
theorem dX6_readRule_52 : decode cX6_readRule 52 = .ok (.aload_n 0, 1) := by decide +kernel
theorem dX6_readRule_53 : decode cX6_readRule 53 = .ok (.getfield 135, 3) := by decide +kernel
theorem dX6_readRule_56 : decode cX6_readRule 56 = .ok (.aload_n 0, 1) := by decide +kernel
theorem dX6_readRule_57 : decode cX6_readRule 57 = .ok (.getfield 19, 3) := by decide +kernel
theorem dX6_readRule_60 : decode cX6_readRule 60 = .ok (.iload_n 1, 1) := by decide +kernel
theorem dX6_readRule_61 : decode cX6_readRule 61 = .ok (.iaload, 1) := by decide +kernel
theorem dX6_readRule_62 : decode cX6_readRule 62 = .ok (.if_icmp .lt 16, 3) := by decide +kernel
theorem dX6_readRule_65 : decode cX6_readRule 65 = .ok (.aload_n 0, 1) := by decide +kernel
theorem dX6_readRule_66 : decode cX6_readRule 66 = .ok (.getfield 135, 3) := by decide +kernel
theorem dX6_readRule_69 : decode cX6_readRule 69 = .ok (.aload_n 0, 1) := by decide +kernel
theorem dX6_readRule_70 : decode cX6_readRule 70 = .ok (.getfield 22, 3) := by decide +kernel
theorem dX6_readRule_73 : decode cX6_readRule 73 = .ok (.iload_n 1, 1) := by decide +kernel
theorem dX6_readRule_74 : decode cX6_readRule 74 = .ok (.iaload, 1) := by decide +kernel
theorem dX6_readRule_75 : decode cX6_readRule 75 = .ok (.if_icmp .le 9, 3) := by decide +kernel
theorem dX6_readRule_78 : decode cX6_readRule 78 = .ok (.aload_n 0, 1) := by decide +kernel
theorem dX6_readRule_79 : decode cX6_readRule 79 = .ok (.iconst 2, 1) := by decide +kernel
theorem dX6_readRule_80 : decode cX6_readRule 80 = .ok (.invokevirtual 168, 3) := by decide +kernel
theorem dX6_readRule_83 : decode cX6_readRule 83 = .ok (.ireturn, 1) := by decide +kernel
theorem dX6_readRule_84 : decode cX6_readRule 84 = .ok (.aload_n 0, 1) := by decide +kernel
theorem dX6_readRule_85 : decode cX6_readRule 85 = .ok (.getfield 25, 3) := by decide +kernel
theorem dX6_readRule_88 : decode cX6_readRule 88 = .ok (.iload_n 1, 1) := by decide +kernel
theorem dX6_readRule_89 : decode cX6_readRule 89 = .ok (.aload_n 0, 1) := by decide +kernel
theorem dX6_readRule_90 : decode cX6_readRule 90 = .ok (.getfield 135, 3) := by decide +kernel
theorem dX6_readRule_93 : decode cX6_readRule 93 = .ok (.iastore, 1) := by decide +kernel
theorem dX6_readRule_94 : decode cX6_readRule 94 = .ok (.aload_n 0, 1) := by decide +kernel
theorem dX6_readRule_95 : decode cX6_readRule 95 = .ok (.dup, 1) := by decide +kernel
theorem dX6_readRule_96 : decode cX6_readRule 96 = .ok (.getfield 171, 3) := by decide +kernel
theorem dX6_readRule_99 : decode cX6_readRule 99 = .ok (.iconst 1, 1) := by decide +kernel
theorem dX6_readRule_100 : decode cX6_readRule 100 = .ok (.iload_n 1, 1) := by decide +kernel
theorem dX6_readRule_101 : decode cX6_readRule 101 = .ok (.ishl, 1) := by decide +kernel
theorem dX6_readRule_102 : decode cX6_readRule 102 = .ok (.ior, 1) := by decide +kernel
theorem dX6_readRule_103 : decode cX6_readRule 103 = .ok (.putfield 171, 3) := by decide +kernel
theorem dX6_readRule_106 : decode cX6_readRule 106 = .ok (.aload_n 0, 1) := by decide +kernel
theorem dX6_readRule_107 : decode cX6_readRule 107 = .ok (.invokevirtual 174, 3) := by decide +kernel
theorem dX6_readRule_110 : decode cX6_readRule 110 = .ok (.aload_n 0, 1) := by decide +kernel
theorem dX6_readRule_111 : decode cX6_readRule 111 = .ok (.getfield 121, 3) := by decide +kernel
theorem dX6_readRule_114 : decode cX6_readRule 114 = .ok (.iconst 4, 1) := by decide +kernel
theorem dX6_readRule_115 : decode cX6_readRule 115 = .ok (.if_icmp .eq 11, 3) := by decide +kernel
theorem dX6_readRule_118 : decode cX6_readRule 118 = .ok (.aload_n 0, 1) := by decide +kernel
theorem dX6_readRule_119 : decode cX6_readRule 119 = .ok (.iconst 1, 1) := by decide +kernel
theorem dX6_readRule_120 : decode cX6_readRule 120 = .ok (.invokevirtual 168, 3) := by decide +kernel
theorem dX6_readRule_123 : decode cX6_readRule 123 = .ok (.ifCond .eq 7, 3) := by decide +kernel
theorem dX6_readRule_126 : decode cX6_readRule 126 = .ok (.iconst 1, 1) := by decide +kernel
theorem dX6_readRule_127 : decode cX6_readRule 127 = .ok (.goto 4, 3) := by decide +kernel
theorem dX6_readRule_130 : decode cX6_readRule 130 = .ok (.iconst 0, 1) := by decide +kernel
theorem dX6_readRule_131 : decode cX6_readRule 131 = .ok (.ireturn, 1) := by decide +kernel
theorem dX6_rules_0 : decode cX6_rules 0 = .ok (.aload_n 0, 1) := by decide +kernel
theorem dX6_rules_1 : decode cX6_rules 1 = .ok (.iconst 0, 1) := by decide +kernel
theorem dX6_rules_2 : decode cX6_rules 2 = .ok (.putfield 101, 3) := by decide +kernel
theorem dX6_rules_5 : decode cX6_rules 5 = .ok (.aload_n 0, 1) := by decide +kernel
theorem dX6_rules_6 : decode cX6_rules 6 = .ok (.aload_n 0, 1) := by decide +kernel
theorem dX6_rules_7 : decode cX6_rules 7 = .ok (.getfield 105, 3) := by decide +kernel
theorem dX6_rules_10 : decode cX6_rules 10 = .ok (.putfield 112, 3) := by decide +kernel
theorem dX6_rules_13 : decode cX6_rules 13 = .ok (.aload_n 0, 1) := by decide +kernel
theorem dX6_rules_14 : decode cX6_rules 14 = .ok (.iconst 0, 1) := by decide +kernel
theorem dX6_rules_15 : decode cX6_rules 15 = .ok (.putfield 105, 3) := by decide +kernel
theorem dX6_rules_18 : decode cX6_rules 18 = .ok (.aload_n 0, 1) := by decide +kernel
theorem dX6_rules_19 : decode cX6_rules 19 = .ok (.iconst 0, 1) := by decide +kernel
theorem dX6_rules_20 : decode cX6_rules 20 = .ok (.putfield 158, 3) := by decide +kernel
theorem dX6_rules_23 : decode cX6_rules 23 = .ok (.aload_n 0, 1) := by decide +kernel
theorem dX6_rules_24 : decode cX6_rules 24 = .ok (.iconst 0, 1) := by decide +kernel
theorem dX6_rules_25 : decode cX6_rules 25 = .ok (.putfield 171, 3) := by decide +kernel
theorem dX6_rules_28 : decode cX6_rules 28 = .ok (.iconst 0, 1) := by decide +kernel
theorem dX6_rules_29 : decode cX6_rules 29 = .ok (.istore_n 1, 1) := by decide +kernel
theorem dX6_rules_30 : decode cX6_rules 30 = .ok (.iload_n 1, 1) := by decide +kernel
theorem dX6_rules_31 : decode cX6_rules 31 = .ok (.bipush 9, 2) := by decide +kernel
theorem dX6_rules_33 : decode cX6_rules 33 = .ok (.if_icmp .ge 21, 3) := by decide +kernel
theorem dX6_rules_36 : decode cX6_rules 36 = .ok (.aload_n 0, 1) := by decide +kernel
theorem dX6_rules_37 : decode cX6_rules 37 = .ok (.getfield 25, 3) := by decide +kernel
theorem dX6_rules_40 : decode cX6_rules 40 = .ok (.iload_n 1, 1) := by decide +kernel
theorem dX6_rules_41 : decode cX6_rules 41 = .ok (.aload_n 0, 1) := by decide +kernel
theorem dX6_rules_42 : decode cX6_rules 42 = .ok (.getfield 16, 3) := by decide +kernel
theorem dX6_rules_45 : decode cX6_rules 45 = .ok (.iload_n 1, 1) := by decide +kernel
theorem dX6_rules_46 : decode cX6_rules 46 = .ok (.iaload, 1) := by decide +kernel
theorem dX6_rules_47 : decode cX6_rules 47 = .ok (.iastore, 1) := by decide +kernel
theorem dX6_rules_48 : decode cX6_rules 48 = .ok (.iinc 1 1, 3) := by decide +kernel
theorem dX6_rules_51 : decode cX6_rules 51 = .ok (.goto (-21), 3) := by decide +kernel
theorem dX6_rules_54 : decode cX6_rules 54 = .ok (.iconst 0, 1) := by decide +kernel
theorem dX6_rules_55 : decode cX6_rules 55 = .ok (.istore_n 1, 1) := by decide +kernel
theorem dX6_rules_56 : decode cX6_rules 56 = .ok (.aload_n 0, 1) := by decide +kernel
theorem dX6_rules_57 : decode cX6_rules 57 = .ok (.iconst 0, 1) := by decide +kernel
theorem dX6_rules_58 : decode cX6_rules 58 = .ok (.putfield 115, 3) := by decide +kernel
theorem dX6_rules_61 : decode cX6_rules 61 = .ok (.aload_n 0, 1) := by decide +kernel
theorem dX6_rules_62 : decode cX6_rules 62 = .ok (.invokevirtual 174, 3) := by decide +kernel
theorem dX6_rules_65 : decode cX6_rules 65 = .ok (.aload_n 0, 1) := by decide +kernel
theorem dX6_rules_66 : decode cX6_rules 66 = .ok (.getfield 121, 3) := by decide +kernel
theorem dX6_rules_69 : decode cX6_rules 69 = .ok (.ifCond .eq 27, 3) := by decide +kernel
theorem dX6_rules_72 : decode cX6_rules 72 = .ok (.aload_n 0, 1) := by decide +kernel
theorem dX6_rules_73 : decode cX6_rules 73 = .ok (.invokevirtual 177, 3) := by decide +kernel
theorem dX6_rules_76 : decode cX6_rules 76 = .ok (.ifCond .ne 10, 3) := by decide +kernel
theorem dX6_rules_79 : decode cX6_rules 79 = .ok (.iconst (-1), 1) := by decide +kernel
theorem dX6_rules_80 : decode cX6_rules 80 = .ok (.aload_n 0, 1) := by decide +kernel
theorem dX6_rules_81 : decode cX6_rules 81 = .ok (.getfield 161, 3) := by decide +kernel
theorem dX6_rules_84 : decode cX6_rules 84 = .ok (.isub, 1) := by decide +kernel
theorem dX6_rules_85 : decode cX6_rules 85 = .ok (.ireturn, 1) := by decide +kernel
theorem dX6_rules_86 : decode cX6_rules 86 = .ok (.iinc 1 1, 3) := by decide +kernel
theorem dX6_rules_89 : decode cX6_rules 89 = .ok (.aload_n 0, 1) := by decide +kernel
theorem dX6_rules_90 : decode cX6_rules 90 = .ok (.invokevirtual 174, 3) := by decide +kernel
theorem dX6_rules_93 : decode cX6_rules 93 = .ok (.goto (-28), 3) := by decide +kernel
theorem dX6_rules_96 : decode cX6_rules 96 = .ok (.iconst 0, 1) := by decide +kernel
theorem dX6_rules_97 : decode cX6_rules 97 = .ok (.istore_n 2, 1) := by decide +kernel
theorem dX6_rules_98 : decode cX6_rules 98 = .ok (.iload_n 2, 1) := by decide +kernel
theorem dX6_rules_99 : decode cX6_rules 99 = .ok (.bipush 9, 2) := by decide +kernel
theorem dX6_rules_101 : decode cX6_rules 101 = .ok (.if_icmp .ge 21, 3) := by decide +kernel
theorem dX6_rules_104 : decode cX6_rules 104 = .ok (.aload_n 0, 1) := by decide +kernel
theorem dX6_rules_105 : decode cX6_rules 105 = .ok (.getfield 13, 3) := by decide +kernel
theorem dX6_rules_108 : decode cX6_rules 108 = .ok (.iload_n 2, 1) := by decide +kernel
theorem dX6_rules_109 : decode cX6_rules 109 = .ok (.aload_n 0, 1) := by decide +kernel
theorem dX6_rules_110 : decode cX6_rules 110 = .ok (.getfield 25, 3) := by decide +kernel
theorem dX6_rules_113 : decode cX6_rules 113 = .ok (.iload_n 2, 1) := by decide +kernel
theorem dX6_rules_114 : decode cX6_rules 114 = .ok (.iaload, 1) := by decide +kernel
theorem dX6_rules_115 : decode cX6_rules 115 = .ok (.iastore, 1) := by decide +kernel
theorem dX6_rules_116 : decode cX6_rules 116 = .ok (.iinc 2 1, 3) := by decide +kernel
theorem dX6_rules_119 : decode cX6_rules 119 = .ok (.goto (-21), 3) := by decide +kernel
theorem dX6_rules_122 : decode cX6_rules 122 = .ok (.iload_n 1, 1) := by decide +kernel
theorem dX6_rules_123 : decode cX6_rules 123 = .ok (.ireturn, 1) := by decide +kernel
theorem dX6_fault_0 : decode cX6_fault 0 = .ok (.aload_n 0, 1) := by decide +kernel
theorem dX6_fault_1 : decode cX6_fault 1 = .ok (.iconst 0, 1) := by decide +kernel
theorem dX6_fault_2 : decode cX6_fault 2 = .ok (.putfield 101, 3) := by decide +kernel
theorem dX6_fault_5 : decode cX6_fault 5 = .ok (.aload_n 0, 1) := by decide +kernel
theorem dX6_fault_6 : decode cX6_fault 6 = .ok (.getfield 158, 3) := by decide +kernel
theorem dX6_fault_9 : decode cX6_fault 9 = .ok (.ireturn, 1) := by decide +kernel
theorem dX6_rule_0 : decode cX6_rule 0 = .ok (.aload_n 0, 1) := by decide +kernel
theorem dX6_rule_1 : decode cX6_rule 1 = .ok (.iconst 0, 1) := by decide +kernel
theorem dX6_rule_2 : decode cX6_rule 2 = .ok (.putfield 101, 3) := by decide +kernel
theorem dX6_rule_5 : decode cX6_rule 5 = .ok (.iload_n 1, 1) := by decide +kernel
theorem dX6_rule_6 : decode cX6_rule 6 = .ok (.ifCond .lt 9, 3) := by decide +kernel
theorem dX6_rule_9 : decode cX6_rule 9 = .ok (.iload_n 1, 1) := by decide +kernel
theorem dX6_rule_10 : decode cX6_rule 10 = .ok (.bipush 9, 2) := by decide +kernel
theorem dX6_rule_12 : decode cX6_rule 12 = .ok (.if_icmp .lt 7, 3) := by decide +kernel
theorem dX6_rule_15 : decode cX6_rule 15 = .ok (.iconst (-1), 1) := by decide +kernel
theorem dX6_rule_16 : decode cX6_rule 16 = .ok (.goto 9, 3) := by decide +kernel
theorem dX6_rule_19 : decode cX6_rule 19 = .ok (.aload_n 0, 1) := by decide +kernel
theorem dX6_rule_20 : decode cX6_rule 20 = .ok (.getfield 13, 3) := by decide +kernel
theorem dX6_rule_23 : decode cX6_rule 23 = .ok (.iload_n 1, 1) := by decide +kernel
theorem dX6_rule_24 : decode cX6_rule 24 = .ok (.iaload, 1) := by decide +kernel
theorem dX6_rule_25 : decode cX6_rule 25 = .ok (.ireturn, 1) := by decide +kernel
theorem dX6_isIn_0 : decode cX6_isIn 0 = .ok (.iload_n 0, 1) := by decide +kernel
theorem dX6_isIn_1 : decode cX6_isIn 1 = .ok (.iload_n 1, 1) := by decide +kernel
theorem dX6_isIn_2 : decode cX6_isIn 2 = .ok (.if_icmp .lt 12, 3) := by decide +kernel
theorem dX6_isIn_5 : decode cX6_isIn 5 = .ok (.iload_n 0, 1) := by decide +kernel
theorem dX6_isIn_6 : decode cX6_isIn 6 = .ok (.iload_n 2, 1) := by decide +kernel
theorem dX6_isIn_7 : decode cX6_isIn 7 = .ok (.if_icmp .gt 7, 3) := by decide +kernel
theorem dX6_isIn_10 : decode cX6_isIn 10 = .ok (.iconst 1, 1) := by decide +kernel
theorem dX6_isIn_11 : decode cX6_isIn 11 = .ok (.goto 4, 3) := by decide +kernel
theorem dX6_isIn_14 : decode cX6_isIn 14 = .ok (.iconst 0, 1) := by decide +kernel
theorem dX6_isIn_15 : decode cX6_isIn 15 = .ok (.ireturn, 1) := by decide +kernel
theorem dX6_isUmpire_0 : decode cX6_isUmpire 0 = .ok (.iload_n 1, 1) := by decide +kernel
theorem dX6_isUmpire_1 : decode cX6_isUmpire 1 = .ok (.ifCond .lt 15, 3) := by decide +kernel
theorem dX6_isUmpire_4 : decode cX6_isUmpire 4 = .ok (.iload_n 1, 1) := by decide +kernel
theorem dX6_isUmpire_5 : decode cX6_isUmpire 5 = .ok (.aload_n 0, 1) := by decide +kernel
theorem dX6_isUmpire_6 : decode cX6_isUmpire 6 = .ok (.getfield 181, 3) := by decide +kernel
theorem dX6_isUmpire_9 : decode cX6_isUmpire 9 = .ok (.if_icmp .ge 7, 3) := by decide +kernel
theorem dX6_isUmpire_12 : decode cX6_isUmpire 12 = .ok (.iconst 1, 1) := by decide +kernel
theorem dX6_isUmpire_13 : decode cX6_isUmpire 13 = .ok (.goto 4, 3) := by decide +kernel
theorem dX6_isUmpire_16 : decode cX6_isUmpire 16 = .ok (.iconst 0, 1) := by decide +kernel
theorem dX6_isUmpire_17 : decode cX6_isUmpire 17 = .ok (.ireturn, 1) := by decide +kernel
theorem dX6_isSeat_0 : decode cX6_isSeat 0 = .ok (.iload_n 1, 1) := by decide +kernel
theorem dX6_isSeat_1 : decode cX6_isSeat 1 = .ok (.ifCond .lt 17, 3) := by decide +kernel
theorem dX6_isSeat_4 : decode cX6_isSeat 4 = .ok (.iload_n 1, 1) := by decide +kernel
theorem dX6_isSeat_5 : decode cX6_isSeat 5 = .ok (.iconst 2, 1) := by decide +kernel
theorem dX6_isSeat_6 : decode cX6_isSeat 6 = .ok (.aload_n 0, 1) := by decide +kernel
theorem dX6_isSeat_7 : decode cX6_isSeat 7 = .ok (.getfield 184, 3) := by decide +kernel
theorem dX6_isSeat_10 : decode cX6_isSeat 10 = .ok (.imul, 1) := by decide +kernel
theorem dX6_isSeat_11 : decode cX6_isSeat 11 = .ok (.if_icmp .ge 7, 3) := by decide +kernel
theorem dX6_isSeat_14 : decode cX6_isSeat 14 = .ok (.iconst 1, 1) := by decide +kernel
theorem dX6_isSeat_15 : decode cX6_isSeat 15 = .ok (.goto 4, 3) := by decide +kernel
theorem dX6_isSeat_18 : decode cX6_isSeat 18 = .ok (.iconst 0, 1) := by decide +kernel
theorem dX6_isSeat_19 : decode cX6_isSeat 19 = .ok (.ireturn, 1) := by decide +kernel
theorem dX6_umpire_0 : decode cX6_umpire 0 = .ok (.aload_n 0, 1) := by decide +kernel
theorem dX6_umpire_1 : decode cX6_umpire 1 = .ok (.iconst 0, 1) := by decide +kernel
theorem dX6_umpire_2 : decode cX6_umpire 2 = .ok (.putfield 101, 3) := by decide +kernel
theorem dX6_umpire_5 : decode cX6_umpire 5 = .ok (.aload_n 0, 1) := by decide +kernel
theorem dX6_umpire_6 : decode cX6_umpire 6 = .ok (.getfield 181, 3) := by decide +kernel
theorem dX6_umpire_9 : decode cX6_umpire 9 = .ok (.bipush 20, 2) := by decide +kernel
theorem dX6_umpire_11 : decode cX6_umpire 11 = .ok (.if_icmp .eq 44, 3) := by decide +kernel
theorem dX6_umpire_14 : decode cX6_umpire 14 = .ok (.iload_n 1, 1) := by decide +kernel
theorem dX6_umpire_15 : decode cX6_umpire 15 = .ok (.iconst 0, 1) := by decide +kernel
theorem dX6_umpire_16 : decode cX6_umpire 16 = .ok (.bipush 99, 2) := by decide +kernel
theorem dX6_umpire_18 : decode cX6_umpire 18 = .ok (.invokestatic 187, 3) := by decide +kernel
theorem dX6_umpire_21 : decode cX6_umpire 21 = .ok (.ifCond .eq 34, 3) := by decide +kernel
theorem dX6_umpire_24 : decode cX6_umpire 24 = .ok (.iload_n 2, 1) := by decide +kernel
theorem dX6_umpire_25 : decode cX6_umpire 25 = .ok (.iconst 0, 1) := by decide +kernel
theorem dX6_umpire_26 : decode cX6_umpire 26 = .ok (.bipush 99, 2) := by decide +kernel
theorem dX6_umpire_28 : decode cX6_umpire 28 = .ok (.invokestatic 187, 3) := by decide +kernel
theorem dX6_umpire_31 : decode cX6_umpire 31 = .ok (.ifCond .eq 24, 3) := by decide +kernel
theorem dX6_umpire_34 : decode cX6_umpire 34 = .ok (.iload_n 3, 1) := by decide +kernel
theorem dX6_umpire_35 : decode cX6_umpire 35 = .ok (.iconst 1, 1) := by decide +kernel
theorem dX6_umpire_36 : decode cX6_umpire 36 = .ok (.iconst 4, 1) := by decide +kernel
theorem dX6_umpire_37 : decode cX6_umpire 37 = .ok (.invokestatic 187, 3) := by decide +kernel
theorem dX6_umpire_40 : decode cX6_umpire 40 = .ok (.ifCond .eq 15, 3) := by decide +kernel
theorem dX6_umpire_43 : decode cX6_umpire 43 = .ok (.iload 4, 2) := by decide +kernel
theorem dX6_umpire_45 : decode cX6_umpire 45 = .ok (.iconst 0, 1) := by decide +kernel
theorem dX6_umpire_46 : decode cX6_umpire 46 = .ok (.sipush 4095, 3) := by decide +kernel
theorem dX6_umpire_49 : decode cX6_umpire 49 = .ok (.invokestatic 187, 3) := by decide +kernel
theorem dX6_umpire_52 : decode cX6_umpire 52 = .ok (.ifCond .ne 5, 3) := by decide +kernel
theorem dX6_umpire_55 : decode cX6_umpire 55 = .ok (.iconst (-1), 1) := by decide +kernel
theorem dX6_umpire_56 : decode cX6_umpire 56 = .ok (.ireturn, 1) := by decide +kernel
theorem dX6_umpire_57 : decode cX6_umpire 57 = .ok (.aload_n 0, 1) := by decide +kernel
theorem dX6_umpire_58 : decode cX6_umpire 58 = .ok (.getfield 28, 3) := by decide +kernel
theorem dX6_umpire_61 : decode cX6_umpire 61 = .ok (.aload_n 0, 1) := by decide +kernel
theorem dX6_umpire_62 : decode cX6_umpire 62 = .ok (.getfield 181, 3) := by decide +kernel
theorem dX6_umpire_65 : decode cX6_umpire 65 = .ok (.iload_n 1, 1) := by decide +kernel
theorem dX6_umpire_66 : decode cX6_umpire 66 = .ok (.iastore, 1) := by decide +kernel
theorem dX6_umpire_67 : decode cX6_umpire 67 = .ok (.aload_n 0, 1) := by decide +kernel
theorem dX6_umpire_68 : decode cX6_umpire 68 = .ok (.getfield 31, 3) := by decide +kernel
theorem dX6_umpire_71 : decode cX6_umpire 71 = .ok (.aload_n 0, 1) := by decide +kernel
theorem dX6_umpire_72 : decode cX6_umpire 72 = .ok (.getfield 181, 3) := by decide +kernel
theorem dX6_umpire_75 : decode cX6_umpire 75 = .ok (.iload_n 2, 1) := by decide +kernel
theorem dX6_umpire_76 : decode cX6_umpire 76 = .ok (.iastore, 1) := by decide +kernel
theorem dX6_umpire_77 : decode cX6_umpire 77 = .ok (.aload_n 0, 1) := by decide +kernel
theorem dX6_umpire_78 : decode cX6_umpire 78 = .ok (.getfield 34, 3) := by decide +kernel
theorem dX6_umpire_81 : decode cX6_umpire 81 = .ok (.aload_n 0, 1) := by decide +kernel
theorem dX6_umpire_82 : decode cX6_umpire 82 = .ok (.getfield 181, 3) := by decide +kernel
theorem dX6_umpire_85 : decode cX6_umpire 85 = .ok (.iload_n 3, 1) := by decide +kernel
theorem dX6_umpire_86 : decode cX6_umpire 86 = .ok (.iastore, 1) := by decide +kernel
theorem dX6_umpire_87 : decode cX6_umpire 87 = .ok (.aload_n 0, 1) := by decide +kernel
theorem dX6_umpire_88 : decode cX6_umpire 88 = .ok (.getfield 37, 3) := by decide +kernel
theorem dX6_umpire_91 : decode cX6_umpire 91 = .ok (.aload_n 0, 1) := by decide +kernel
theorem dX6_umpire_92 : decode cX6_umpire 92 = .ok (.getfield 181, 3) := by decide +kernel
theorem dX6_umpire_95 : decode cX6_umpire 95 = .ok (.iload 4, 2) := by decide +kernel
theorem dX6_umpire_97 : decode cX6_umpire 97 = .ok (.iastore, 1) := by decide +kernel
theorem dX6_umpire_98 : decode cX6_umpire 98 = .ok (.aload_n 0, 1) := by decide +kernel
theorem dX6_umpire_99 : decode cX6_umpire 99 = .ok (.dup, 1) := by decide +kernel
theorem dX6_umpire_100 : decode cX6_umpire 100 = .ok (.getfield 181, 3) := by decide +kernel
theorem dX6_umpire_103 : decode cX6_umpire 103 = .ok (.iconst 1, 1) := by decide +kernel
theorem dX6_umpire_104 : decode cX6_umpire 104 = .ok (.iadd, 1) := by decide +kernel
theorem dX6_umpire_105 : decode cX6_umpire 105 = .ok (.putfield 181, 3) := by decide +kernel
theorem dX6_umpire_108 : decode cX6_umpire 108 = .ok (.aload_n 0, 1) := by decide +kernel
theorem dX6_umpire_109 : decode cX6_umpire 109 = .ok (.getfield 181, 3) := by decide +kernel
theorem dX6_umpire_112 : decode cX6_umpire 112 = .ok (.iconst 1, 1) := by decide +kernel
theorem dX6_umpire_113 : decode cX6_umpire 113 = .ok (.isub, 1) := by decide +kernel
theorem dX6_umpire_114 : decode cX6_umpire 114 = .ok (.ireturn, 1) := by decide +kernel
theorem dX6_seatOf_0 : decode cX6_seatOf 0 = .ok (.iconst 0, 1) := by decide +kernel
theorem dX6_seatOf_1 : decode cX6_seatOf 1 = .ok (.istore_n 2, 1) := by decide +kernel
theorem dX6_seatOf_2 : decode cX6_seatOf 2 = .ok (.iload_n 2, 1) := by decide +kernel
theorem dX6_seatOf_3 : decode cX6_seatOf 3 = .ok (.iconst 2, 1) := by decide +kernel
theorem dX6_seatOf_4 : decode cX6_seatOf 4 = .ok (.aload_n 0, 1) := by decide +kernel
theorem dX6_seatOf_5 : decode cX6_seatOf 5 = .ok (.getfield 184, 3) := by decide +kernel
theorem dX6_seatOf_8 : decode cX6_seatOf 8 = .ok (.imul, 1) := by decide +kernel
theorem dX6_seatOf_9 : decode cX6_seatOf 9 = .ok (.if_icmp .ge 21, 3) := by decide +kernel
theorem dX6_seatOf_12 : decode cX6_seatOf 12 = .ok (.aload_n 0, 1) := by decide +kernel
theorem dX6_seatOf_13 : decode cX6_seatOf 13 = .ok (.getfield 71, 3) := by decide +kernel
theorem dX6_seatOf_16 : decode cX6_seatOf 16 = .ok (.iload_n 2, 1) := by decide +kernel
theorem dX6_seatOf_17 : decode cX6_seatOf 17 = .ok (.iaload, 1) := by decide +kernel
theorem dX6_seatOf_18 : decode cX6_seatOf 18 = .ok (.iload_n 1, 1) := by decide +kernel
theorem dX6_seatOf_19 : decode cX6_seatOf 19 = .ok (.if_icmp .ne 5, 3) := by decide +kernel
theorem dX6_seatOf_22 : decode cX6_seatOf 22 = .ok (.iload_n 2, 1) := by decide +kernel
theorem dX6_seatOf_23 : decode cX6_seatOf 23 = .ok (.ireturn, 1) := by decide +kernel
theorem dX6_seatOf_24 : decode cX6_seatOf 24 = .ok (.iinc 2 1, 3) := by decide +kernel
theorem dX6_seatOf_27 : decode cX6_seatOf 27 = .ok (.goto (-25), 3) := by decide +kernel
theorem dX6_seatOf_30 : decode cX6_seatOf 30 = .ok (.iconst (-1), 1) := by decide +kernel
theorem dX6_seatOf_31 : decode cX6_seatOf 31 = .ok (.ireturn, 1) := by decide +kernel
theorem dX6_away_0 : decode cX6_away 0 = .ok (.aload_n 0, 1) := by decide +kernel
theorem dX6_away_1 : decode cX6_away 1 = .ok (.iconst 0, 1) := by decide +kernel
theorem dX6_away_2 : decode cX6_away 2 = .ok (.putfield 101, 3) := by decide +kernel
theorem dX6_away_5 : decode cX6_away 5 = .ok (.aload_n 0, 1) := by decide +kernel
theorem dX6_away_6 : decode cX6_away 6 = .ok (.iload_n 1, 1) := by decide +kernel
theorem dX6_away_7 : decode cX6_away 7 = .ok (.invokevirtual 191, 3) := by decide +kernel
theorem dX6_away_10 : decode cX6_away 10 = .ok (.ifCond .eq 48, 3) := by decide +kernel
theorem dX6_away_13 : decode cX6_away 13 = .ok (.iload_n 2, 1) := by decide +kernel
theorem dX6_away_14 : decode cX6_away 14 = .ok (.aload_n 0, 1) := by decide +kernel
theorem dX6_away_15 : decode cX6_away 15 = .ok (.getfield 194, 3) := by decide +kernel
theorem dX6_away_18 : decode cX6_away 18 = .ok (.bipush 99, 2) := by decide +kernel
theorem dX6_away_20 : decode cX6_away 20 = .ok (.invokestatic 187, 3) := by decide +kernel
theorem dX6_away_23 : decode cX6_away 23 = .ok (.ifCond .eq 35, 3) := by decide +kernel
theorem dX6_away_26 : decode cX6_away 26 = .ok (.iload_n 2, 1) := by decide +kernel
theorem dX6_away_27 : decode cX6_away 27 = .ok (.aload_n 0, 1) := by decide +kernel
theorem dX6_away_28 : decode cX6_away 28 = .ok (.getfield 194, 3) := by decide +kernel
theorem dX6_away_31 : decode cX6_away 31 = .ok (.if_icmp .ne 12, 3) := by decide +kernel
theorem dX6_away_34 : decode cX6_away 34 = .ok (.aload_n 0, 1) := by decide +kernel
theorem dX6_away_35 : decode cX6_away 35 = .ok (.iload_n 1, 1) := by decide +kernel
theorem dX6_away_36 : decode cX6_away 36 = .ok (.invokevirtual 197, 3) := by decide +kernel
theorem dX6_away_39 : decode cX6_away 39 = .ok (.iconst (-1), 1) := by decide +kernel
theorem dX6_away_40 : decode cX6_away 40 = .ok (.if_icmp .ne 18, 3) := by decide +kernel
theorem dX6_away_43 : decode cX6_away 43 = .ok (.aload_n 0, 1) := by decide +kernel
theorem dX6_away_44 : decode cX6_away 44 = .ok (.getfield 55, 3) := by decide +kernel
theorem dX6_away_47 : decode cX6_away 47 = .ok (.bipush 100, 2) := by decide +kernel
theorem dX6_away_49 : decode cX6_away 49 = .ok (.iload_n 1, 1) := by decide +kernel
theorem dX6_away_50 : decode cX6_away 50 = .ok (.imul, 1) := by decide +kernel
theorem dX6_away_51 : decode cX6_away 51 = .ok (.iload_n 2, 1) := by decide +kernel
theorem dX6_away_52 : decode cX6_away 52 = .ok (.iadd, 1) := by decide +kernel
theorem dX6_away_53 : decode cX6_away 53 = .ok (.baload, 1) := by decide +kernel
theorem dX6_away_54 : decode cX6_away 54 = .ok (.iload_n 3, 1) := by decide +kernel
theorem dX6_away_55 : decode cX6_away 55 = .ok (.if_icmp .ne 5, 3) := by decide +kernel
theorem dX6_away_58 : decode cX6_away 58 = .ok (.iconst 0, 1) := by decide +kernel
theorem dX6_away_59 : decode cX6_away 59 = .ok (.ireturn, 1) := by decide +kernel
theorem dX6_away_60 : decode cX6_away 60 = .ok (.aload_n 0, 1) := by decide +kernel
theorem dX6_away_61 : decode cX6_away 61 = .ok (.getfield 55, 3) := by decide +kernel
theorem dX6_away_64 : decode cX6_away 64 = .ok (.bipush 100, 2) := by decide +kernel
theorem dX6_away_66 : decode cX6_away 66 = .ok (.iload_n 1, 1) := by decide +kernel
theorem dX6_away_67 : decode cX6_away 67 = .ok (.imul, 1) := by decide +kernel
theorem dX6_away_68 : decode cX6_away 68 = .ok (.iload_n 2, 1) := by decide +kernel
theorem dX6_away_69 : decode cX6_away 69 = .ok (.iadd, 1) := by decide +kernel
theorem dX6_away_70 : decode cX6_away 70 = .ok (.iload_n 3, 1) := by decide +kernel
theorem dX6_away_71 : decode cX6_away 71 = .ok (.bastore, 1) := by decide +kernel
theorem dX6_away_72 : decode cX6_away 72 = .ok (.iconst 1, 1) := by decide +kernel
theorem dX6_away_73 : decode cX6_away 73 = .ok (.ireturn, 1) := by decide +kernel
theorem dX6_game_0 : decode cX6_game 0 = .ok (.aload_n 0, 1) := by decide +kernel
theorem dX6_game_1 : decode cX6_game 1 = .ok (.iconst 0, 1) := by decide +kernel
theorem dX6_game_2 : decode cX6_game 2 = .ok (.putfield 101, 3) := by decide +kernel
theorem dX6_game_5 : decode cX6_game 5 = .ok (.aload_n 0, 1) := by decide +kernel
theorem dX6_game_6 : decode cX6_game 6 = .ok (.getfield 184, 3) := by decide +kernel
theorem dX6_game_9 : decode cX6_game 9 = .ok (.bipush 8, 2) := by decide +kernel
theorem dX6_game_11 : decode cX6_game 11 = .ok (.if_icmp .eq 60, 3) := by decide +kernel
theorem dX6_game_14 : decode cX6_game 14 = .ok (.iload_n 1, 1) := by decide +kernel
theorem dX6_game_15 : decode cX6_game 15 = .ok (.iconst 0, 1) := by decide +kernel
theorem dX6_game_16 : decode cX6_game 16 = .ok (.bipush 99, 2) := by decide +kernel
theorem dX6_game_18 : decode cX6_game 18 = .ok (.invokestatic 187, 3) := by decide +kernel
theorem dX6_game_21 : decode cX6_game 21 = .ok (.ifCond .eq 50, 3) := by decide +kernel
theorem dX6_game_24 : decode cX6_game 24 = .ok (.iload_n 2, 1) := by decide +kernel
theorem dX6_game_25 : decode cX6_game 25 = .ok (.iconst 0, 1) := by decide +kernel
theorem dX6_game_26 : decode cX6_game 26 = .ok (.bipush 99, 2) := by decide +kernel
theorem dX6_game_28 : decode cX6_game 28 = .ok (.invokestatic 187, 3) := by decide +kernel
theorem dX6_game_31 : decode cX6_game 31 = .ok (.ifCond .eq 40, 3) := by decide +kernel
theorem dX6_game_34 : decode cX6_game 34 = .ok (.iload_n 3, 1) := by decide +kernel
theorem dX6_game_35 : decode cX6_game 35 = .ok (.iconst 0, 1) := by decide +kernel
theorem dX6_game_36 : decode cX6_game 36 = .ok (.bipush 11, 2) := by decide +kernel
theorem dX6_game_38 : decode cX6_game 38 = .ok (.invokestatic 187, 3) := by decide +kernel
theorem dX6_game_41 : decode cX6_game 41 = .ok (.ifCond .eq 30, 3) := by decide +kernel
theorem dX6_game_44 : decode cX6_game 44 = .ok (.iload 4, 2) := by decide +kernel
theorem dX6_game_46 : decode cX6_game 46 = .ok (.iconst 0, 1) := by decide +kernel
theorem dX6_game_47 : decode cX6_game 47 = .ok (.bipush 11, 2) := by decide +kernel
theorem dX6_game_49 : decode cX6_game 49 = .ok (.invokestatic 187, 3) := by decide +kernel
theorem dX6_game_52 : decode cX6_game 52 = .ok (.ifCond .eq 19, 3) := by decide +kernel
theorem dX6_game_55 : decode cX6_game 55 = .ok (.iload_n 3, 1) := by decide +kernel
theorem dX6_game_56 : decode cX6_game 56 = .ok (.iload 4, 2) := by decide +kernel
theorem dX6_game_58 : decode cX6_game 58 = .ok (.if_icmp .eq 13, 3) := by decide +kernel
theorem dX6_game_61 : decode cX6_game 61 = .ok (.iload 5, 2) := by decide +kernel
theorem dX6_game_63 : decode cX6_game 63 = .ok (.iconst 1, 1) := by decide +kernel
theorem dX6_game_64 : decode cX6_game 64 = .ok (.iconst 4, 1) := by decide +kernel
theorem dX6_game_65 : decode cX6_game 65 = .ok (.invokestatic 187, 3) := by decide +kernel
theorem dX6_game_68 : decode cX6_game 68 = .ok (.ifCond .ne 5, 3) := by decide +kernel
theorem dX6_game_71 : decode cX6_game 71 = .ok (.iconst (-1), 1) := by decide +kernel
theorem dX6_game_72 : decode cX6_game 72 = .ok (.ireturn, 1) := by decide +kernel
theorem dX6_game_73 : decode cX6_game 73 = .ok (.aload_n 0, 1) := by decide +kernel
theorem dX6_game_74 : decode cX6_game 74 = .ok (.getfield 59, 3) := by decide +kernel
theorem dX6_game_77 : decode cX6_game 77 = .ok (.aload_n 0, 1) := by decide +kernel
theorem dX6_game_78 : decode cX6_game 78 = .ok (.getfield 184, 3) := by decide +kernel
theorem dX6_game_81 : decode cX6_game 81 = .ok (.iload_n 1, 1) := by decide +kernel
theorem dX6_game_82 : decode cX6_game 82 = .ok (.iastore, 1) := by decide +kernel
theorem dX6_game_83 : decode cX6_game 83 = .ok (.aload_n 0, 1) := by decide +kernel
theorem dX6_game_84 : decode cX6_game 84 = .ok (.getfield 62, 3) := by decide +kernel
theorem dX6_game_87 : decode cX6_game 87 = .ok (.aload_n 0, 1) := by decide +kernel
theorem dX6_game_88 : decode cX6_game 88 = .ok (.getfield 184, 3) := by decide +kernel
theorem dX6_game_91 : decode cX6_game 91 = .ok (.iload_n 2, 1) := by decide +kernel
theorem dX6_game_92 : decode cX6_game 92 = .ok (.iastore, 1) := by decide +kernel
theorem dX6_game_93 : decode cX6_game 93 = .ok (.aload_n 0, 1) := by decide +kernel
theorem dX6_game_94 : decode cX6_game 94 = .ok (.getfield 65, 3) := by decide +kernel
theorem dX6_game_97 : decode cX6_game 97 = .ok (.aload_n 0, 1) := by decide +kernel
theorem dX6_game_98 : decode cX6_game 98 = .ok (.getfield 184, 3) := by decide +kernel
theorem dX6_game_101 : decode cX6_game 101 = .ok (.iconst 1, 1) := by decide +kernel
theorem dX6_game_102 : decode cX6_game 102 = .ok (.iload_n 3, 1) := by decide +kernel
theorem dX6_game_103 : decode cX6_game 103 = .ok (.ishl, 1) := by decide +kernel
theorem dX6_game_104 : decode cX6_game 104 = .ok (.iconst 1, 1) := by decide +kernel
theorem dX6_game_105 : decode cX6_game 105 = .ok (.iload 4, 2) := by decide +kernel
theorem dX6_game_107 : decode cX6_game 107 = .ok (.ishl, 1) := by decide +kernel
theorem dX6_game_108 : decode cX6_game 108 = .ok (.ior, 1) := by decide +kernel
theorem dX6_game_109 : decode cX6_game 109 = .ok (.iastore, 1) := by decide +kernel
theorem dX6_game_110 : decode cX6_game 110 = .ok (.aload_n 0, 1) := by decide +kernel
theorem dX6_game_111 : decode cX6_game 111 = .ok (.getfield 68, 3) := by decide +kernel
theorem dX6_game_114 : decode cX6_game 114 = .ok (.aload_n 0, 1) := by decide +kernel
theorem dX6_game_115 : decode cX6_game 115 = .ok (.getfield 184, 3) := by decide +kernel
theorem dX6_game_118 : decode cX6_game 118 = .ok (.iload 5, 2) := by decide +kernel
theorem dX6_game_120 : decode cX6_game 120 = .ok (.iastore, 1) := by decide +kernel
theorem dX6_game_121 : decode cX6_game 121 = .ok (.iconst 2, 1) := by decide +kernel
theorem dX6_game_122 : decode cX6_game 122 = .ok (.aload_n 0, 1) := by decide +kernel
theorem dX6_game_123 : decode cX6_game 123 = .ok (.getfield 184, 3) := by decide +kernel
theorem dX6_game_126 : decode cX6_game 126 = .ok (.imul, 1) := by decide +kernel
theorem dX6_game_127 : decode cX6_game 127 = .ok (.istore 6, 2) := by decide +kernel
theorem dX6_game_129 : decode cX6_game 129 = .ok (.iload 6, 2) := by decide +kernel
theorem dX6_game_131 : decode cX6_game 131 = .ok (.iconst 2, 1) := by decide +kernel
theorem dX6_game_132 : decode cX6_game 132 = .ok (.aload_n 0, 1) := by decide +kernel
theorem dX6_game_133 : decode cX6_game 133 = .ok (.getfield 184, 3) := by decide +kernel
theorem dX6_game_136 : decode cX6_game 136 = .ok (.imul, 1) := by decide +kernel
theorem dX6_game_137 : decode cX6_game 137 = .ok (.iconst 2, 1) := by decide +kernel
theorem dX6_game_138 : decode cX6_game 138 = .ok (.iadd, 1) := by decide +kernel
theorem dX6_game_139 : decode cX6_game 139 = .ok (.if_icmp .ge 25, 3) := by decide +kernel
theorem dX6_game_142 : decode cX6_game 142 = .ok (.aload_n 0, 1) := by decide +kernel
theorem dX6_game_143 : decode cX6_game 143 = .ok (.getfield 71, 3) := by decide +kernel
theorem dX6_game_146 : decode cX6_game 146 = .ok (.iload 6, 2) := by decide +kernel
theorem dX6_game_148 : decode cX6_game 148 = .ok (.iconst (-1), 1) := by decide +kernel
theorem dX6_game_149 : decode cX6_game 149 = .ok (.iastore, 1) := by decide +kernel
theorem dX6_game_150 : decode cX6_game 150 = .ok (.aload_n 0, 1) := by decide +kernel
theorem dX6_game_151 : decode cX6_game 151 = .ok (.getfield 74, 3) := by decide +kernel
theorem dX6_game_154 : decode cX6_game 154 = .ok (.iload 6, 2) := by decide +kernel
theorem dX6_game_156 : decode cX6_game 156 = .ok (.iconst 0, 1) := by decide +kernel
theorem dX6_game_157 : decode cX6_game 157 = .ok (.iastore, 1) := by decide +kernel
theorem dX6_game_158 : decode cX6_game 158 = .ok (.iinc 6 1, 3) := by decide +kernel
theorem dX6_game_161 : decode cX6_game 161 = .ok (.goto (-32), 3) := by decide +kernel
theorem dX6_game_164 : decode cX6_game 164 = .ok (.aload_n 0, 1) := by decide +kernel
theorem dX6_game_165 : decode cX6_game 165 = .ok (.dup, 1) := by decide +kernel
theorem dX6_game_166 : decode cX6_game 166 = .ok (.getfield 184, 3) := by decide +kernel
theorem dX6_game_169 : decode cX6_game 169 = .ok (.iconst 1, 1) := by decide +kernel
theorem dX6_game_170 : decode cX6_game 170 = .ok (.iadd, 1) := by decide +kernel
theorem dX6_game_171 : decode cX6_game 171 = .ok (.putfield 184, 3) := by decide +kernel
theorem dX6_game_174 : decode cX6_game 174 = .ok (.aload_n 0, 1) := by decide +kernel
theorem dX6_game_175 : decode cX6_game 175 = .ok (.getfield 184, 3) := by decide +kernel
theorem dX6_game_178 : decode cX6_game 178 = .ok (.iconst 1, 1) := by decide +kernel
theorem dX6_game_179 : decode cX6_game 179 = .ok (.isub, 1) := by decide +kernel
theorem dX6_game_180 : decode cX6_game 180 = .ok (.ireturn, 1) := by decide +kernel
theorem dX6_less_0 : decode cX6_less 0 = .ok (.iload_n 0, 1) := by decide +kernel
theorem dX6_less_1 : decode cX6_less 1 = .ok (.iload_n 1, 1) := by decide +kernel
theorem dX6_less_2 : decode cX6_less 2 = .ok (.if_icmp .le 9, 3) := by decide +kernel
theorem dX6_less_5 : decode cX6_less 5 = .ok (.iload_n 0, 1) := by decide +kernel
theorem dX6_less_6 : decode cX6_less 6 = .ok (.iload_n 1, 1) := by decide +kernel
theorem dX6_less_7 : decode cX6_less 7 = .ok (.isub, 1) := by decide +kernel
theorem dX6_less_8 : decode cX6_less 8 = .ok (.goto 6, 3) := by decide +kernel
theorem dX6_less_11 : decode cX6_less 11 = .ok (.iload_n 1, 1) := by decide +kernel
theorem dX6_less_12 : decode cX6_less 12 = .ok (.iload_n 0, 1) := by decide +kernel
theorem dX6_less_13 : decode cX6_less 13 = .ok (.isub, 1) := by decide +kernel
theorem dX6_less_14 : decode cX6_less 14 = .ok (.ireturn, 1) := by decide +kernel
theorem dX6_miles_0 : decode cX6_miles 0 = .ok (.aload_n 0, 1) := by decide +kernel
theorem dX6_miles_1 : decode cX6_miles 1 = .ok (.getfield 28, 3) := by decide +kernel
theorem dX6_miles_4 : decode cX6_miles 4 = .ok (.iload_n 1, 1) := by decide +kernel
theorem dX6_miles_5 : decode cX6_miles 5 = .ok (.iaload, 1) := by decide +kernel
theorem dX6_miles_6 : decode cX6_miles 6 = .ok (.aload_n 0, 1) := by decide +kernel
theorem dX6_miles_7 : decode cX6_miles 7 = .ok (.getfield 59, 3) := by decide +kernel
theorem dX6_miles_10 : decode cX6_miles 10 = .ok (.iload_n 2, 1) := by decide +kernel
theorem dX6_miles_11 : decode cX6_miles 11 = .ok (.iconst 2, 1) := by decide +kernel
theorem dX6_miles_12 : decode cX6_miles 12 = .ok (.idiv, 1) := by decide +kernel
theorem dX6_miles_13 : decode cX6_miles 13 = .ok (.iaload, 1) := by decide +kernel
theorem dX6_miles_14 : decode cX6_miles 14 = .ok (.invokestatic 200, 3) := by decide +kernel
theorem dX6_miles_17 : decode cX6_miles 17 = .ok (.aload_n 0, 1) := by decide +kernel
theorem dX6_miles_18 : decode cX6_miles 18 = .ok (.getfield 31, 3) := by decide +kernel
theorem dX6_miles_21 : decode cX6_miles 21 = .ok (.iload_n 1, 1) := by decide +kernel
theorem dX6_miles_22 : decode cX6_miles 22 = .ok (.iaload, 1) := by decide +kernel
theorem dX6_miles_23 : decode cX6_miles 23 = .ok (.aload_n 0, 1) := by decide +kernel
theorem dX6_miles_24 : decode cX6_miles 24 = .ok (.getfield 62, 3) := by decide +kernel
theorem dX6_miles_27 : decode cX6_miles 27 = .ok (.iload_n 2, 1) := by decide +kernel
theorem dX6_miles_28 : decode cX6_miles 28 = .ok (.iconst 2, 1) := by decide +kernel
theorem dX6_miles_29 : decode cX6_miles 29 = .ok (.idiv, 1) := by decide +kernel
theorem dX6_miles_30 : decode cX6_miles 30 = .ok (.iaload, 1) := by decide +kernel
theorem dX6_miles_31 : decode cX6_miles 31 = .ok (.invokestatic 200, 3) := by decide +kernel
theorem dX6_miles_34 : decode cX6_miles 34 = .ok (.iadd, 1) := by decide +kernel
theorem dX6_miles_35 : decode cX6_miles 35 = .ok (.ireturn, 1) := by decide +kernel
theorem dX6_mayHave_0 : decode cX6_mayHave 0 = .ok (.iload_n 2, 1) := by decide +kernel
theorem dX6_mayHave_1 : decode cX6_mayHave 1 = .ok (.iconst 2, 1) := by decide +kernel
theorem dX6_mayHave_2 : decode cX6_mayHave 2 = .ok (.idiv, 1) := by decide +kernel
theorem dX6_mayHave_3 : decode cX6_mayHave 3 = .ok (.istore_n 3, 1) := by decide +kernel
theorem dX6_mayHave_4 : decode cX6_mayHave 4 = .ok (.aload_n 0, 1) := by decide +kernel
theorem dX6_mayHave_5 : decode cX6_mayHave 5 = .ok (.getfield 55, 3) := by decide +kernel
theorem dX6_mayHave_8 : decode cX6_mayHave 8 = .ok (.bipush 100, 2) := by decide +kernel
theorem dX6_mayHave_10 : decode cX6_mayHave 10 = .ok (.iload_n 1, 1) := by decide +kernel
theorem dX6_mayHave_11 : decode cX6_mayHave 11 = .ok (.imul, 1) := by decide +kernel
theorem dX6_mayHave_12 : decode cX6_mayHave 12 = .ok (.aload_n 0, 1) := by decide +kernel
theorem dX6_mayHave_13 : decode cX6_mayHave 13 = .ok (.getfield 194, 3) := by decide +kernel
theorem dX6_mayHave_16 : decode cX6_mayHave 16 = .ok (.iadd, 1) := by decide +kernel
theorem dX6_mayHave_17 : decode cX6_mayHave 17 = .ok (.baload, 1) := by decide +kernel
theorem dX6_mayHave_18 : decode cX6_mayHave 18 = .ok (.ifCond .ne 53, 3) := by decide +kernel
theorem dX6_mayHave_21 : decode cX6_mayHave 21 = .ok (.aload_n 0, 1) := by decide +kernel
theorem dX6_mayHave_22 : decode cX6_mayHave 22 = .ok (.getfield 37, 3) := by decide +kernel
theorem dX6_mayHave_25 : decode cX6_mayHave 25 = .ok (.iload_n 1, 1) := by decide +kernel
theorem dX6_mayHave_26 : decode cX6_mayHave 26 = .ok (.iaload, 1) := by decide +kernel
theorem dX6_mayHave_27 : decode cX6_mayHave 27 = .ok (.aload_n 0, 1) := by decide +kernel
theorem dX6_mayHave_28 : decode cX6_mayHave 28 = .ok (.getfield 65, 3) := by decide +kernel
theorem dX6_mayHave_31 : decode cX6_mayHave 31 = .ok (.iload_n 3, 1) := by decide +kernel
theorem dX6_mayHave_32 : decode cX6_mayHave 32 = .ok (.iaload, 1) := by decide +kernel
theorem dX6_mayHave_33 : decode cX6_mayHave 33 = .ok (.iand, 1) := by decide +kernel
theorem dX6_mayHave_34 : decode cX6_mayHave 34 = .ok (.ifCond .ne 37, 3) := by decide +kernel
theorem dX6_mayHave_37 : decode cX6_mayHave 37 = .ok (.aload_n 0, 1) := by decide +kernel
theorem dX6_mayHave_38 : decode cX6_mayHave 38 = .ok (.getfield 34, 3) := by decide +kernel
theorem dX6_mayHave_41 : decode cX6_mayHave 41 = .ok (.iload_n 1, 1) := by decide +kernel
theorem dX6_mayHave_42 : decode cX6_mayHave 42 = .ok (.iaload, 1) := by decide +kernel
theorem dX6_mayHave_43 : decode cX6_mayHave 43 = .ok (.aload_n 0, 1) := by decide +kernel
theorem dX6_mayHave_44 : decode cX6_mayHave 44 = .ok (.getfield 68, 3) := by decide +kernel
theorem dX6_mayHave_47 : decode cX6_mayHave 47 = .ok (.iload_n 3, 1) := by decide +kernel
theorem dX6_mayHave_48 : decode cX6_mayHave 48 = .ok (.iaload, 1) := by decide +kernel
theorem dX6_mayHave_49 : decode cX6_mayHave 49 = .ok (.iload_n 2, 1) := by decide +kernel
theorem dX6_mayHave_50 : decode cX6_mayHave 50 = .ok (.iconst 2, 1) := by decide +kernel
theorem dX6_mayHave_51 : decode cX6_mayHave 51 = .ok (.irem, 1) := by decide +kernel
theorem dX6_mayHave_52 : decode cX6_mayHave 52 = .ok (.iadd, 1) := by decide +kernel
theorem dX6_mayHave_53 : decode cX6_mayHave 53 = .ok (.if_icmp .gt 18, 3) := by decide +kernel
theorem dX6_mayHave_56 : decode cX6_mayHave 56 = .ok (.aload_n 0, 1) := by decide +kernel
theorem dX6_mayHave_57 : decode cX6_mayHave 57 = .ok (.iload_n 1, 1) := by decide +kernel
theorem dX6_mayHave_58 : decode cX6_mayHave 58 = .ok (.iload_n 2, 1) := by decide +kernel
theorem dX6_mayHave_59 : decode cX6_mayHave 59 = .ok (.invokevirtual 204, 3) := by decide +kernel
theorem dX6_mayHave_62 : decode cX6_mayHave 62 = .ok (.aload_n 0, 1) := by decide +kernel
theorem dX6_mayHave_63 : decode cX6_mayHave 63 = .ok (.getfield 13, 3) := by decide +kernel
theorem dX6_mayHave_66 : decode cX6_mayHave 66 = .ok (.iconst 2, 1) := by decide +kernel
theorem dX6_mayHave_67 : decode cX6_mayHave 67 = .ok (.iaload, 1) := by decide +kernel
theorem dX6_mayHave_68 : decode cX6_mayHave 68 = .ok (.if_icmp .le 5, 3) := by decide +kernel
theorem dX6_mayHave_71 : decode cX6_mayHave 71 = .ok (.iconst 0, 1) := by decide +kernel
theorem dX6_mayHave_72 : decode cX6_mayHave 72 = .ok (.ireturn, 1) := by decide +kernel
theorem dX6_mayHave_73 : decode cX6_mayHave 73 = .ok (.iconst 0, 1) := by decide +kernel
theorem dX6_mayHave_74 : decode cX6_mayHave 74 = .ok (.istore 4, 2) := by decide +kernel
theorem dX6_mayHave_76 : decode cX6_mayHave 76 = .ok (.iload 4, 2) := by decide +kernel
theorem dX6_mayHave_78 : decode cX6_mayHave 78 = .ok (.aload_n 0, 1) := by decide +kernel
theorem dX6_mayHave_79 : decode cX6_mayHave 79 = .ok (.getfield 13, 3) := by decide +kernel
theorem dX6_mayHave_82 : decode cX6_mayHave 82 = .ok (.iconst 0, 1) := by decide +kernel
theorem dX6_mayHave_83 : decode cX6_mayHave 83 = .ok (.iaload, 1) := by decide +kernel
theorem dX6_mayHave_84 : decode cX6_mayHave 84 = .ok (.if_icmp .ge 40, 3) := by decide +kernel
theorem dX6_mayHave_87 : decode cX6_mayHave 87 = .ok (.iload 4, 2) := by decide +kernel
theorem dX6_mayHave_89 : decode cX6_mayHave 89 = .ok (.aload_n 0, 1) := by decide +kernel
theorem dX6_mayHave_90 : decode cX6_mayHave 90 = .ok (.getfield 194, 3) := by decide +kernel
theorem dX6_mayHave_93 : decode cX6_mayHave 93 = .ok (.if_icmp .ge 31, 3) := by decide +kernel
theorem dX6_mayHave_96 : decode cX6_mayHave 96 = .ok (.aload_n 0, 1) := by decide +kernel
theorem dX6_mayHave_97 : decode cX6_mayHave 97 = .ok (.getfield 52, 3) := by decide +kernel
theorem dX6_mayHave_100 : decode cX6_mayHave 100 = .ok (.bipush 100, 2) := by decide +kernel
theorem dX6_mayHave_102 : decode cX6_mayHave 102 = .ok (.iload_n 1, 1) := by decide +kernel
theorem dX6_mayHave_103 : decode cX6_mayHave 103 = .ok (.imul, 1) := by decide +kernel
theorem dX6_mayHave_104 : decode cX6_mayHave 104 = .ok (.aload_n 0, 1) := by decide +kernel
theorem dX6_mayHave_105 : decode cX6_mayHave 105 = .ok (.getfield 194, 3) := by decide +kernel
theorem dX6_mayHave_108 : decode cX6_mayHave 108 = .ok (.iadd, 1) := by decide +kernel
theorem dX6_mayHave_109 : decode cX6_mayHave 109 = .ok (.iconst 1, 1) := by decide +kernel
theorem dX6_mayHave_110 : decode cX6_mayHave 110 = .ok (.isub, 1) := by decide +kernel
theorem dX6_mayHave_111 : decode cX6_mayHave 111 = .ok (.iload 4, 2) := by decide +kernel
theorem dX6_mayHave_113 : decode cX6_mayHave 113 = .ok (.isub, 1) := by decide +kernel
theorem dX6_mayHave_114 : decode cX6_mayHave 114 = .ok (.iaload, 1) := by decide +kernel
theorem dX6_mayHave_115 : decode cX6_mayHave 115 = .ok (.ifCond .eq 9, 3) := by decide +kernel
theorem dX6_mayHave_118 : decode cX6_mayHave 118 = .ok (.iinc 4 1, 3) := by decide +kernel
theorem dX6_mayHave_121 : decode cX6_mayHave 121 = .ok (.goto (-45), 3) := by decide +kernel
theorem dX6_mayHave_124 : decode cX6_mayHave 124 = .ok (.iload 4, 2) := by decide +kernel
theorem dX6_mayHave_126 : decode cX6_mayHave 126 = .ok (.aload_n 0, 1) := by decide +kernel
theorem dX6_mayHave_127 : decode cX6_mayHave 127 = .ok (.getfield 13, 3) := by decide +kernel
theorem dX6_mayHave_130 : decode cX6_mayHave 130 = .ok (.iconst 0, 1) := by decide +kernel
theorem dX6_mayHave_131 : decode cX6_mayHave 131 = .ok (.iaload, 1) := by decide +kernel
theorem dX6_mayHave_132 : decode cX6_mayHave 132 = .ok (.if_icmp .ne 5, 3) := by decide +kernel
theorem dX6_mayHave_135 : decode cX6_mayHave 135 = .ok (.iconst 0, 1) := by decide +kernel
theorem dX6_mayHave_136 : decode cX6_mayHave 136 = .ok (.ireturn, 1) := by decide +kernel
theorem dX6_mayHave_137 : decode cX6_mayHave 137 = .ok (.iconst 1, 1) := by decide +kernel
theorem dX6_mayHave_138 : decode cX6_mayHave 138 = .ok (.istore 5, 2) := by decide +kernel
theorem dX6_mayHave_140 : decode cX6_mayHave 140 = .ok (.iload 5, 2) := by decide +kernel
theorem dX6_mayHave_142 : decode cX6_mayHave 142 = .ok (.aload_n 0, 1) := by decide +kernel
theorem dX6_mayHave_143 : decode cX6_mayHave 143 = .ok (.getfield 13, 3) := by decide +kernel
theorem dX6_mayHave_146 : decode cX6_mayHave 146 = .ok (.iconst 1, 1) := by decide +kernel
theorem dX6_mayHave_147 : decode cX6_mayHave 147 = .ok (.iaload, 1) := by decide +kernel
theorem dX6_mayHave_148 : decode cX6_mayHave 148 = .ok (.if_icmp .gt 47, 3) := by decide +kernel
theorem dX6_mayHave_151 : decode cX6_mayHave 151 = .ok (.iload 5, 2) := by decide +kernel
theorem dX6_mayHave_153 : decode cX6_mayHave 153 = .ok (.aload_n 0, 1) := by decide +kernel
theorem dX6_mayHave_154 : decode cX6_mayHave 154 = .ok (.getfield 194, 3) := by decide +kernel
theorem dX6_mayHave_157 : decode cX6_mayHave 157 = .ok (.if_icmp .gt 38, 3) := by decide +kernel
theorem dX6_mayHave_160 : decode cX6_mayHave 160 = .ok (.aload_n 0, 1) := by decide +kernel
theorem dX6_mayHave_161 : decode cX6_mayHave 161 = .ok (.getfield 52, 3) := by decide +kernel
theorem dX6_mayHave_164 : decode cX6_mayHave 164 = .ok (.bipush 100, 2) := by decide +kernel
theorem dX6_mayHave_166 : decode cX6_mayHave 166 = .ok (.iload_n 1, 1) := by decide +kernel
theorem dX6_mayHave_167 : decode cX6_mayHave 167 = .ok (.imul, 1) := by decide +kernel
theorem dX6_mayHave_168 : decode cX6_mayHave 168 = .ok (.aload_n 0, 1) := by decide +kernel
theorem dX6_mayHave_169 : decode cX6_mayHave 169 = .ok (.getfield 194, 3) := by decide +kernel
theorem dX6_mayHave_172 : decode cX6_mayHave 172 = .ok (.iadd, 1) := by decide +kernel
theorem dX6_mayHave_173 : decode cX6_mayHave 173 = .ok (.iload 5, 2) := by decide +kernel
theorem dX6_mayHave_175 : decode cX6_mayHave 175 = .ok (.isub, 1) := by decide +kernel
theorem dX6_mayHave_176 : decode cX6_mayHave 176 = .ok (.iaload, 1) := by decide +kernel
theorem dX6_mayHave_177 : decode cX6_mayHave 177 = .ok (.aload_n 0, 1) := by decide +kernel
theorem dX6_mayHave_178 : decode cX6_mayHave 178 = .ok (.getfield 65, 3) := by decide +kernel
theorem dX6_mayHave_181 : decode cX6_mayHave 181 = .ok (.iload_n 3, 1) := by decide +kernel
theorem dX6_mayHave_182 : decode cX6_mayHave 182 = .ok (.iaload, 1) := by decide +kernel
theorem dX6_mayHave_183 : decode cX6_mayHave 183 = .ok (.iand, 1) := by decide +kernel
theorem dX6_mayHave_184 : decode cX6_mayHave 184 = .ok (.ifCond .eq 5, 3) := by decide +kernel
theorem dX6_mayHave_187 : decode cX6_mayHave 187 = .ok (.iconst 0, 1) := by decide +kernel
theorem dX6_mayHave_188 : decode cX6_mayHave 188 = .ok (.ireturn, 1) := by decide +kernel
theorem dX6_mayHave_189 : decode cX6_mayHave 189 = .ok (.iinc 5 1, 3) := by decide +kernel
theorem dX6_mayHave_192 : decode cX6_mayHave 192 = .ok (.goto (-52), 3) := by decide +kernel
theorem dX6_mayHave_195 : decode cX6_mayHave 195 = .ok (.iconst 1, 1) := by decide +kernel
theorem dX6_mayHave_196 : decode cX6_mayHave 196 = .ok (.ireturn, 1) := by decide +kernel
theorem dX6_costOf_0 : decode cX6_costOf 0 = .ok (.aload_n 0, 1) := by decide +kernel
theorem dX6_costOf_1 : decode cX6_costOf 1 = .ok (.iload_n 1, 1) := by decide +kernel
theorem dX6_costOf_2 : decode cX6_costOf 2 = .ok (.iload_n 2, 1) := by decide +kernel
theorem dX6_costOf_3 : decode cX6_costOf 3 = .ok (.invokevirtual 204, 3) := by decide +kernel
theorem dX6_costOf_6 : decode cX6_costOf 6 = .ok (.aload_n 0, 1) := by decide +kernel
theorem dX6_costOf_7 : decode cX6_costOf 7 = .ok (.getfield 13, 3) := by decide +kernel
theorem dX6_costOf_10 : decode cX6_costOf 10 = .ok (.iconst 3, 1) := by decide +kernel
theorem dX6_costOf_11 : decode cX6_costOf 11 = .ok (.iaload, 1) := by decide +kernel
theorem dX6_costOf_12 : decode cX6_costOf 12 = .ok (.aload_n 0, 1) := by decide +kernel
theorem dX6_costOf_13 : decode cX6_costOf 13 = .ok (.getfield 49, 3) := by decide +kernel
theorem dX6_costOf_16 : decode cX6_costOf 16 = .ok (.iload_n 1, 1) := by decide +kernel
theorem dX6_costOf_17 : decode cX6_costOf 17 = .ok (.iaload, 1) := by decide +kernel
theorem dX6_costOf_18 : decode cX6_costOf 18 = .ok (.imul, 1) := by decide +kernel
theorem dX6_costOf_19 : decode cX6_costOf 19 = .ok (.iadd, 1) := by decide +kernel
theorem dX6_costOf_20 : decode cX6_costOf 20 = .ok (.ireturn, 1) := by decide +kernel
theorem dX6_may_0 : decode cX6_may 0 = .ok (.aload_n 0, 1) := by decide +kernel
theorem dX6_may_1 : decode cX6_may 1 = .ok (.iconst 0, 1) := by decide +kernel
theorem dX6_may_2 : decode cX6_may 2 = .ok (.putfield 101, 3) := by decide +kernel
theorem dX6_may_5 : decode cX6_may 5 = .ok (.aload_n 0, 1) := by decide +kernel
theorem dX6_may_6 : decode cX6_may 6 = .ok (.iload_n 1, 1) := by decide +kernel
theorem dX6_may_7 : decode cX6_may 7 = .ok (.invokevirtual 191, 3) := by decide +kernel
theorem dX6_may_10 : decode cX6_may 10 = .ok (.ifCond .eq 24, 3) := by decide +kernel
theorem dX6_may_13 : decode cX6_may 13 = .ok (.aload_n 0, 1) := by decide +kernel
theorem dX6_may_14 : decode cX6_may 14 = .ok (.iload_n 2, 1) := by decide +kernel
theorem dX6_may_15 : decode cX6_may 15 = .ok (.invokevirtual 207, 3) := by decide +kernel
theorem dX6_may_18 : decode cX6_may 18 = .ok (.ifCond .eq 16, 3) := by decide +kernel
theorem dX6_may_21 : decode cX6_may 21 = .ok (.aload_n 0, 1) := by decide +kernel
theorem dX6_may_22 : decode cX6_may 22 = .ok (.iload_n 1, 1) := by decide +kernel
theorem dX6_may_23 : decode cX6_may 23 = .ok (.iload_n 2, 1) := by decide +kernel
theorem dX6_may_24 : decode cX6_may 24 = .ok (.invokevirtual 210, 3) := by decide +kernel
theorem dX6_may_27 : decode cX6_may 27 = .ok (.ifCond .eq 7, 3) := by decide +kernel
theorem dX6_may_30 : decode cX6_may 30 = .ok (.iconst 1, 1) := by decide +kernel
theorem dX6_may_31 : decode cX6_may 31 = .ok (.goto 4, 3) := by decide +kernel
theorem dX6_may_34 : decode cX6_may 34 = .ok (.iconst 0, 1) := by decide +kernel
theorem dX6_may_35 : decode cX6_may 35 = .ok (.ireturn, 1) := by decide +kernel
theorem dX6_cost_0 : decode cX6_cost 0 = .ok (.aload_n 0, 1) := by decide +kernel
theorem dX6_cost_1 : decode cX6_cost 1 = .ok (.iconst 0, 1) := by decide +kernel
theorem dX6_cost_2 : decode cX6_cost 2 = .ok (.putfield 101, 3) := by decide +kernel
theorem dX6_cost_5 : decode cX6_cost 5 = .ok (.aload_n 0, 1) := by decide +kernel
theorem dX6_cost_6 : decode cX6_cost 6 = .ok (.iload_n 1, 1) := by decide +kernel
theorem dX6_cost_7 : decode cX6_cost 7 = .ok (.invokevirtual 191, 3) := by decide +kernel
theorem dX6_cost_10 : decode cX6_cost 10 = .ok (.ifCond .eq 20, 3) := by decide +kernel
theorem dX6_cost_13 : decode cX6_cost 13 = .ok (.aload_n 0, 1) := by decide +kernel
theorem dX6_cost_14 : decode cX6_cost 14 = .ok (.iload_n 2, 1) := by decide +kernel
theorem dX6_cost_15 : decode cX6_cost 15 = .ok (.invokevirtual 207, 3) := by decide +kernel
theorem dX6_cost_18 : decode cX6_cost 18 = .ok (.ifCond .eq 12, 3) := by decide +kernel
theorem dX6_cost_21 : decode cX6_cost 21 = .ok (.aload_n 0, 1) := by decide +kernel
theorem dX6_cost_22 : decode cX6_cost 22 = .ok (.iload_n 1, 1) := by decide +kernel
theorem dX6_cost_23 : decode cX6_cost 23 = .ok (.iload_n 2, 1) := by decide +kernel
theorem dX6_cost_24 : decode cX6_cost 24 = .ok (.invokevirtual 214, 3) := by decide +kernel
theorem dX6_cost_27 : decode cX6_cost 27 = .ok (.goto 4, 3) := by decide +kernel
theorem dX6_cost_30 : decode cX6_cost 30 = .ok (.iconst (-1), 1) := by decide +kernel
theorem dX6_cost_31 : decode cX6_cost 31 = .ok (.ireturn, 1) := by decide +kernel
theorem dX6_pays_0 : decode cX6_pays 0 = .ok (.aload_n 0, 1) := by decide +kernel
theorem dX6_pays_1 : decode cX6_pays 1 = .ok (.getfield 71, 3) := by decide +kernel
theorem dX6_pays_4 : decode cX6_pays 4 = .ok (.iload_n 1, 1) := by decide +kernel
theorem dX6_pays_5 : decode cX6_pays 5 = .ok (.iaload, 1) := by decide +kernel
theorem dX6_pays_6 : decode cX6_pays 6 = .ok (.iconst (-1), 1) := by decide +kernel
theorem dX6_pays_7 : decode cX6_pays 7 = .ok (.if_icmp .ne 8, 3) := by decide +kernel
theorem dX6_pays_10 : decode cX6_pays 10 = .ok (.ldc 217, 2) := by decide +kernel
theorem dX6_pays_12 : decode cX6_pays 12 = .ok (.goto 19, 3) := by decide +kernel
theorem dX6_pays_15 : decode cX6_pays 15 = .ok (.aload_n 0, 1) := by decide +kernel
theorem dX6_pays_16 : decode cX6_pays 16 = .ok (.getfield 83, 3) := by decide +kernel
theorem dX6_pays_19 : decode cX6_pays 19 = .ok (.bipush 20, 2) := by decide +kernel
theorem dX6_pays_21 : decode cX6_pays 21 = .ok (.iload_n 1, 1) := by decide +kernel
theorem dX6_pays_22 : decode cX6_pays 22 = .ok (.imul, 1) := by decide +kernel
theorem dX6_pays_23 : decode cX6_pays 23 = .ok (.aload_n 0, 1) := by decide +kernel
theorem dX6_pays_24 : decode cX6_pays 24 = .ok (.getfield 71, 3) := by decide +kernel
theorem dX6_pays_27 : decode cX6_pays 27 = .ok (.iload_n 1, 1) := by decide +kernel
theorem dX6_pays_28 : decode cX6_pays 28 = .ok (.iaload, 1) := by decide +kernel
theorem dX6_pays_29 : decode cX6_pays 29 = .ok (.iadd, 1) := by decide +kernel
theorem dX6_pays_30 : decode cX6_pays 30 = .ok (.iaload, 1) := by decide +kernel
theorem dX6_pays_31 : decode cX6_pays 31 = .ok (.ireturn, 1) := by decide +kernel
theorem dX6_seek_0 : decode cX6_seek 0 = .ok (.iconst 0, 1) := by decide +kernel
theorem dX6_seek_1 : decode cX6_seek 1 = .ok (.istore_n 2, 1) := by decide +kernel
theorem dX6_seek_2 : decode cX6_seek 2 = .ok (.iload_n 2, 1) := by decide +kernel
theorem dX6_seek_3 : decode cX6_seek 3 = .ok (.iload_n 1, 1) := by decide +kernel
theorem dX6_seek_4 : decode cX6_seek 4 = .ok (.if_icmp .ge 24, 3) := by decide +kernel
theorem dX6_seek_7 : decode cX6_seek 7 = .ok (.aload_n 0, 1) := by decide +kernel
theorem dX6_seek_8 : decode cX6_seek 8 = .ok (.getfield 77, 3) := by decide +kernel
theorem dX6_seek_11 : decode cX6_seek 11 = .ok (.iload_n 2, 1) := by decide +kernel
theorem dX6_seek_12 : decode cX6_seek 12 = .ok (.ldc 217, 2) := by decide +kernel
theorem dX6_seek_14 : decode cX6_seek 14 = .ok (.iastore, 1) := by decide +kernel
theorem dX6_seek_15 : decode cX6_seek 15 = .ok (.aload_n 0, 1) := by decide +kernel
theorem dX6_seek_16 : decode cX6_seek 16 = .ok (.getfield 80, 3) := by decide +kernel
theorem dX6_seek_19 : decode cX6_seek 19 = .ok (.iload_n 2, 1) := by decide +kernel
theorem dX6_seek_20 : decode cX6_seek 20 = .ok (.iconst (-1), 1) := by decide +kernel
theorem dX6_seek_21 : decode cX6_seek 21 = .ok (.iastore, 1) := by decide +kernel
theorem dX6_seek_22 : decode cX6_seek 22 = .ok (.iinc 2 1, 3) := by decide +kernel
theorem dX6_seek_25 : decode cX6_seek 25 = .ok (.goto (-23), 3) := by decide +kernel
theorem dX6_seek_28 : decode cX6_seek 28 = .ok (.iconst 1, 1) := by decide +kernel
theorem dX6_seek_29 : decode cX6_seek 29 = .ok (.istore_n 2, 1) := by decide +kernel
theorem dX6_seek_30 : decode cX6_seek 30 = .ok (.iload_n 2, 1) := by decide +kernel
theorem dX6_seek_31 : decode cX6_seek 31 = .ok (.ifCond .eq 159, 3) := by decide +kernel
theorem dX6_seek_34 : decode cX6_seek 34 = .ok (.iconst 0, 1) := by decide +kernel
theorem dX6_seek_35 : decode cX6_seek 35 = .ok (.istore_n 2, 1) := by decide +kernel
theorem dX6_seek_36 : decode cX6_seek 36 = .ok (.iconst 0, 1) := by decide +kernel
theorem dX6_seek_37 : decode cX6_seek 37 = .ok (.istore_n 3, 1) := by decide +kernel
theorem dX6_seek_38 : decode cX6_seek 38 = .ok (.iload_n 3, 1) := by decide +kernel
theorem dX6_seek_39 : decode cX6_seek 39 = .ok (.iload_n 1, 1) := by decide +kernel
theorem dX6_seek_40 : decode cX6_seek 40 = .ok (.if_icmp .ge 147, 3) := by decide +kernel
theorem dX6_seek_43 : decode cX6_seek 43 = .ok (.iconst 0, 1) := by decide +kernel
theorem dX6_seek_44 : decode cX6_seek 44 = .ok (.istore 4, 2) := by decide +kernel
theorem dX6_seek_46 : decode cX6_seek 46 = .ok (.iload 4, 2) := by decide +kernel
theorem dX6_seek_48 : decode cX6_seek 48 = .ok (.aload_n 0, 1) := by decide +kernel
theorem dX6_seek_49 : decode cX6_seek 49 = .ok (.getfield 181, 3) := by decide +kernel
theorem dX6_seek_52 : decode cX6_seek 52 = .ok (.if_icmp .ge 129, 3) := by decide +kernel
theorem dX6_seek_55 : decode cX6_seek 55 = .ok (.aload_n 0, 1) := by decide +kernel
theorem dX6_seek_56 : decode cX6_seek 56 = .ok (.getfield 89, 3) := by decide +kernel
theorem dX6_seek_59 : decode cX6_seek 59 = .ok (.iload_n 3, 1) := by decide +kernel
theorem dX6_seek_60 : decode cX6_seek 60 = .ok (.baload, 1) := by decide +kernel
theorem dX6_seek_61 : decode cX6_seek 61 = .ok (.ifCond .ne 120, 3) := by decide +kernel
theorem dX6_seek_64 : decode cX6_seek 64 = .ok (.aload_n 0, 1) := by decide +kernel
theorem dX6_seek_65 : decode cX6_seek 65 = .ok (.getfield 83, 3) := by decide +kernel
theorem dX6_seek_68 : decode cX6_seek 68 = .ok (.bipush 20, 2) := by decide +kernel
theorem dX6_seek_70 : decode cX6_seek 70 = .ok (.iload_n 3, 1) := by decide +kernel
theorem dX6_seek_71 : decode cX6_seek 71 = .ok (.imul, 1) := by decide +kernel
theorem dX6_seek_72 : decode cX6_seek 72 = .ok (.iload 4, 2) := by decide +kernel
theorem dX6_seek_74 : decode cX6_seek 74 = .ok (.iadd, 1) := by decide +kernel
theorem dX6_seek_75 : decode cX6_seek 75 = .ok (.iaload, 1) := by decide +kernel
theorem dX6_seek_76 : decode cX6_seek 76 = .ok (.ldc 218, 2) := by decide +kernel
theorem dX6_seek_78 : decode cX6_seek 78 = .ok (.if_icmp .eq 97, 3) := by decide +kernel
theorem dX6_seek_81 : decode cX6_seek 81 = .ok (.aload_n 0, 1) := by decide +kernel
theorem dX6_seek_82 : decode cX6_seek 82 = .ok (.getfield 71, 3) := by decide +kernel
theorem dX6_seek_85 : decode cX6_seek 85 = .ok (.iload_n 3, 1) := by decide +kernel
theorem dX6_seek_86 : decode cX6_seek 86 = .ok (.iaload, 1) := by decide +kernel
theorem dX6_seek_87 : decode cX6_seek 87 = .ok (.iload 4, 2) := by decide +kernel
theorem dX6_seek_89 : decode cX6_seek 89 = .ok (.if_icmp .ne 6, 3) := by decide +kernel
theorem dX6_seek_92 : decode cX6_seek 92 = .ok (.goto 83, 3) := by decide +kernel
theorem dX6_seek_95 : decode cX6_seek 95 = .ok (.aload_n 0, 1) := by decide +kernel
theorem dX6_seek_96 : decode cX6_seek 96 = .ok (.getfield 86, 3) := by decide +kernel
theorem dX6_seek_99 : decode cX6_seek 99 = .ok (.iload 4, 2) := by decide +kernel
theorem dX6_seek_101 : decode cX6_seek 101 = .ok (.iaload, 1) := by decide +kernel
theorem dX6_seek_102 : decode cX6_seek 102 = .ok (.istore 5, 2) := by decide +kernel
theorem dX6_seek_104 : decode cX6_seek 104 = .ok (.aload_n 0, 1) := by decide +kernel
theorem dX6_seek_105 : decode cX6_seek 105 = .ok (.getfield 83, 3) := by decide +kernel
theorem dX6_seek_108 : decode cX6_seek 108 = .ok (.bipush 20, 2) := by decide +kernel
theorem dX6_seek_110 : decode cX6_seek 110 = .ok (.iload_n 3, 1) := by decide +kernel
theorem dX6_seek_111 : decode cX6_seek 111 = .ok (.imul, 1) := by decide +kernel
theorem dX6_seek_112 : decode cX6_seek 112 = .ok (.iload 4, 2) := by decide +kernel
theorem dX6_seek_114 : decode cX6_seek 114 = .ok (.iadd, 1) := by decide +kernel
theorem dX6_seek_115 : decode cX6_seek 115 = .ok (.iaload, 1) := by decide +kernel
theorem dX6_seek_116 : decode cX6_seek 116 = .ok (.iload 5, 2) := by decide +kernel
theorem dX6_seek_118 : decode cX6_seek 118 = .ok (.iconst (-1), 1) := by decide +kernel
theorem dX6_seek_119 : decode cX6_seek 119 = .ok (.if_icmp .ne 7, 3) := by decide +kernel
theorem dX6_seek_122 : decode cX6_seek 122 = .ok (.iconst 0, 1) := by decide +kernel
theorem dX6_seek_123 : decode cX6_seek 123 = .ok (.goto 17, 3) := by decide +kernel
theorem dX6_seek_126 : decode cX6_seek 126 = .ok (.aload_n 0, 1) := by decide +kernel
theorem dX6_seek_127 : decode cX6_seek 127 = .ok (.getfield 77, 3) := by decide +kernel
theorem dX6_seek_130 : decode cX6_seek 130 = .ok (.iload 5, 2) := by decide +kernel
theorem dX6_seek_132 : decode cX6_seek 132 = .ok (.iaload, 1) := by decide +kernel
theorem dX6_seek_133 : decode cX6_seek 133 = .ok (.aload_n 0, 1) := by decide +kernel
theorem dX6_seek_134 : decode cX6_seek 134 = .ok (.iload 5, 2) := by decide +kernel
theorem dX6_seek_136 : decode cX6_seek 136 = .ok (.invokevirtual 219, 3) := by decide +kernel
theorem dX6_seek_139 : decode cX6_seek 139 = .ok (.isub, 1) := by decide +kernel
theorem dX6_seek_140 : decode cX6_seek 140 = .ok (.iadd, 1) := by decide +kernel
theorem dX6_seek_141 : decode cX6_seek 141 = .ok (.istore 6, 2) := by decide +kernel
theorem dX6_seek_143 : decode cX6_seek 143 = .ok (.iload 6, 2) := by decide +kernel
theorem dX6_seek_145 : decode cX6_seek 145 = .ok (.aload_n 0, 1) := by decide +kernel
theorem dX6_seek_146 : decode cX6_seek 146 = .ok (.getfield 77, 3) := by decide +kernel
theorem dX6_seek_149 : decode cX6_seek 149 = .ok (.iload_n 3, 1) := by decide +kernel
theorem dX6_seek_150 : decode cX6_seek 150 = .ok (.iaload, 1) := by decide +kernel
theorem dX6_seek_151 : decode cX6_seek 151 = .ok (.if_icmp .lt 6, 3) := by decide +kernel
theorem dX6_seek_154 : decode cX6_seek 154 = .ok (.goto 21, 3) := by decide +kernel
theorem dX6_seek_157 : decode cX6_seek 157 = .ok (.aload_n 0, 1) := by decide +kernel
theorem dX6_seek_158 : decode cX6_seek 158 = .ok (.getfield 77, 3) := by decide +kernel
theorem dX6_seek_161 : decode cX6_seek 161 = .ok (.iload_n 3, 1) := by decide +kernel
theorem dX6_seek_162 : decode cX6_seek 162 = .ok (.iload 6, 2) := by decide +kernel
theorem dX6_seek_164 : decode cX6_seek 164 = .ok (.iastore, 1) := by decide +kernel
theorem dX6_seek_165 : decode cX6_seek 165 = .ok (.aload_n 0, 1) := by decide +kernel
theorem dX6_seek_166 : decode cX6_seek 166 = .ok (.getfield 80, 3) := by decide +kernel
theorem dX6_seek_169 : decode cX6_seek 169 = .ok (.iload_n 3, 1) := by decide +kernel
theorem dX6_seek_170 : decode cX6_seek 170 = .ok (.iload 4, 2) := by decide +kernel
theorem dX6_seek_172 : decode cX6_seek 172 = .ok (.iastore, 1) := by decide +kernel
theorem dX6_seek_173 : decode cX6_seek 173 = .ok (.iconst 1, 1) := by decide +kernel
theorem dX6_seek_174 : decode cX6_seek 174 = .ok (.istore_n 2, 1) := by decide +kernel
theorem dX6_seek_175 : decode cX6_seek 175 = .ok (.iinc 4 1, 3) := by decide +kernel
theorem dX6_seek_178 : decode cX6_seek 178 = .ok (.goto (-132), 3) := by decide +kernel
theorem dX6_seek_181 : decode cX6_seek 181 = .ok (.iinc 3 1, 3) := by decide +kernel
theorem dX6_seek_184 : decode cX6_seek 184 = .ok (.goto (-146), 3) := by decide +kernel
theorem dX6_seek_187 : decode cX6_seek 187 = .ok (.goto (-157), 3) := by decide +kernel
theorem dX6_seek_190 : decode cX6_seek 190 = .ok (.return_, 1) := by decide +kernel
theorem dX6_change_0 : decode cX6_change 0 = .ok (.iload_n 1, 1) := by decide +kernel
theorem dX6_change_1 : decode cX6_change 1 = .ok (.istore_n 2, 1) := by decide +kernel
theorem dX6_change_2 : decode cX6_change 2 = .ok (.iload_n 2, 1) := by decide +kernel
theorem dX6_change_3 : decode cX6_change 3 = .ok (.iconst (-1), 1) := by decide +kernel
theorem dX6_change_4 : decode cX6_change 4 = .ok (.if_icmp .eq 52, 3) := by decide +kernel
theorem dX6_change_7 : decode cX6_change 7 = .ok (.aload_n 0, 1) := by decide +kernel
theorem dX6_change_8 : decode cX6_change 8 = .ok (.getfield 80, 3) := by decide +kernel
theorem dX6_change_11 : decode cX6_change 11 = .ok (.iload_n 2, 1) := by decide +kernel
theorem dX6_change_12 : decode cX6_change 12 = .ok (.iaload, 1) := by decide +kernel
theorem dX6_change_13 : decode cX6_change 13 = .ok (.istore_n 3, 1) := by decide +kernel
theorem dX6_change_14 : decode cX6_change 14 = .ok (.iload_n 3, 1) := by decide +kernel
theorem dX6_change_15 : decode cX6_change 15 = .ok (.iconst (-1), 1) := by decide +kernel
theorem dX6_change_16 : decode cX6_change 16 = .ok (.if_icmp .ne 7, 3) := by decide +kernel
theorem dX6_change_19 : decode cX6_change 19 = .ok (.iconst (-1), 1) := by decide +kernel
theorem dX6_change_20 : decode cX6_change 20 = .ok (.goto 9, 3) := by decide +kernel
theorem dX6_change_23 : decode cX6_change 23 = .ok (.aload_n 0, 1) := by decide +kernel
theorem dX6_change_24 : decode cX6_change 24 = .ok (.getfield 86, 3) := by decide +kernel
theorem dX6_change_27 : decode cX6_change 27 = .ok (.iload_n 3, 1) := by decide +kernel
theorem dX6_change_28 : decode cX6_change 28 = .ok (.iaload, 1) := by decide +kernel
theorem dX6_change_29 : decode cX6_change 29 = .ok (.istore 4, 2) := by decide +kernel
theorem dX6_change_31 : decode cX6_change 31 = .ok (.aload_n 0, 1) := by decide +kernel
theorem dX6_change_32 : decode cX6_change 32 = .ok (.getfield 71, 3) := by decide +kernel
theorem dX6_change_35 : decode cX6_change 35 = .ok (.iload_n 2, 1) := by decide +kernel
theorem dX6_change_36 : decode cX6_change 36 = .ok (.iload_n 3, 1) := by decide +kernel
theorem dX6_change_37 : decode cX6_change 37 = .ok (.iastore, 1) := by decide +kernel
theorem dX6_change_38 : decode cX6_change 38 = .ok (.iload_n 3, 1) := by decide +kernel
theorem dX6_change_39 : decode cX6_change 39 = .ok (.iconst (-1), 1) := by decide +kernel
theorem dX6_change_40 : decode cX6_change 40 = .ok (.if_icmp .eq 10, 3) := by decide +kernel
theorem dX6_change_43 : decode cX6_change 43 = .ok (.aload_n 0, 1) := by decide +kernel
theorem dX6_change_44 : decode cX6_change 44 = .ok (.getfield 86, 3) := by decide +kernel
theorem dX6_change_47 : decode cX6_change 47 = .ok (.iload_n 3, 1) := by decide +kernel
theorem dX6_change_48 : decode cX6_change 48 = .ok (.iload_n 2, 1) := by decide +kernel
theorem dX6_change_49 : decode cX6_change 49 = .ok (.iastore, 1) := by decide +kernel
theorem dX6_change_50 : decode cX6_change 50 = .ok (.iload 4, 2) := by decide +kernel
theorem dX6_change_52 : decode cX6_change 52 = .ok (.istore_n 2, 1) := by decide +kernel
theorem dX6_change_53 : decode cX6_change 53 = .ok (.goto (-51), 3) := by decide +kernel
theorem dX6_change_56 : decode cX6_change 56 = .ok (.return_, 1) := by decide +kernel
theorem dX6_settle_0 : decode cX6_settle 0 = .ok (.iconst 2, 1) := by decide +kernel
theorem dX6_settle_1 : decode cX6_settle 1 = .ok (.aload_n 0, 1) := by decide +kernel
theorem dX6_settle_2 : decode cX6_settle 2 = .ok (.getfield 184, 3) := by decide +kernel
theorem dX6_settle_5 : decode cX6_settle 5 = .ok (.imul, 1) := by decide +kernel
theorem dX6_settle_6 : decode cX6_settle 6 = .ok (.istore_n 1, 1) := by decide +kernel
theorem dX6_settle_7 : decode cX6_settle 7 = .ok (.iconst 0, 1) := by decide +kernel
theorem dX6_settle_8 : decode cX6_settle 8 = .ok (.istore_n 2, 1) := by decide +kernel
theorem dX6_settle_9 : decode cX6_settle 9 = .ok (.iload_n 2, 1) := by decide +kernel
theorem dX6_settle_10 : decode cX6_settle 10 = .ok (.iload_n 1, 1) := by decide +kernel
theorem dX6_settle_11 : decode cX6_settle 11 = .ok (.if_icmp .ge 70, 3) := by decide +kernel
theorem dX6_settle_14 : decode cX6_settle 14 = .ok (.aload_n 0, 1) := by decide +kernel
theorem dX6_settle_15 : decode cX6_settle 15 = .ok (.getfield 71, 3) := by decide +kernel
theorem dX6_settle_18 : decode cX6_settle 18 = .ok (.iload_n 2, 1) := by decide +kernel
theorem dX6_settle_19 : decode cX6_settle 19 = .ok (.iconst (-1), 1) := by decide +kernel
theorem dX6_settle_20 : decode cX6_settle 20 = .ok (.iastore, 1) := by decide +kernel
theorem dX6_settle_21 : decode cX6_settle 21 = .ok (.aload_n 0, 1) := by decide +kernel
theorem dX6_settle_22 : decode cX6_settle 22 = .ok (.getfield 89, 3) := by decide +kernel
theorem dX6_settle_25 : decode cX6_settle 25 = .ok (.iload_n 2, 1) := by decide +kernel
theorem dX6_settle_26 : decode cX6_settle 26 = .ok (.iconst 1, 1) := by decide +kernel
theorem dX6_settle_27 : decode cX6_settle 27 = .ok (.bastore, 1) := by decide +kernel
theorem dX6_settle_28 : decode cX6_settle 28 = .ok (.iconst 0, 1) := by decide +kernel
theorem dX6_settle_29 : decode cX6_settle 29 = .ok (.istore_n 3, 1) := by decide +kernel
theorem dX6_settle_30 : decode cX6_settle 30 = .ok (.iload_n 3, 1) := by decide +kernel
theorem dX6_settle_31 : decode cX6_settle 31 = .ok (.aload_n 0, 1) := by decide +kernel
theorem dX6_settle_32 : decode cX6_settle 32 = .ok (.getfield 181, 3) := by decide +kernel
theorem dX6_settle_35 : decode cX6_settle 35 = .ok (.if_icmp .ge 40, 3) := by decide +kernel
theorem dX6_settle_38 : decode cX6_settle 38 = .ok (.aload_n 0, 1) := by decide +kernel
theorem dX6_settle_39 : decode cX6_settle 39 = .ok (.getfield 83, 3) := by decide +kernel
theorem dX6_settle_42 : decode cX6_settle 42 = .ok (.bipush 20, 2) := by decide +kernel
theorem dX6_settle_44 : decode cX6_settle 44 = .ok (.iload_n 2, 1) := by decide +kernel
theorem dX6_settle_45 : decode cX6_settle 45 = .ok (.imul, 1) := by decide +kernel
theorem dX6_settle_46 : decode cX6_settle 46 = .ok (.iload_n 3, 1) := by decide +kernel
theorem dX6_settle_47 : decode cX6_settle 47 = .ok (.iadd, 1) := by decide +kernel
theorem dX6_settle_48 : decode cX6_settle 48 = .ok (.aload_n 0, 1) := by decide +kernel
theorem dX6_settle_49 : decode cX6_settle 49 = .ok (.iload_n 3, 1) := by decide +kernel
theorem dX6_settle_50 : decode cX6_settle 50 = .ok (.iload_n 2, 1) := by decide +kernel
theorem dX6_settle_51 : decode cX6_settle 51 = .ok (.invokevirtual 210, 3) := by decide +kernel
theorem dX6_settle_54 : decode cX6_settle 54 = .ok (.ifCond .eq 12, 3) := by decide +kernel
theorem dX6_settle_57 : decode cX6_settle 57 = .ok (.aload_n 0, 1) := by decide +kernel
theorem dX6_settle_58 : decode cX6_settle 58 = .ok (.iload_n 3, 1) := by decide +kernel
theorem dX6_settle_59 : decode cX6_settle 59 = .ok (.iload_n 2, 1) := by decide +kernel
theorem dX6_settle_60 : decode cX6_settle 60 = .ok (.invokevirtual 214, 3) := by decide +kernel
theorem dX6_settle_63 : decode cX6_settle 63 = .ok (.goto 5, 3) := by decide +kernel
theorem dX6_settle_66 : decode cX6_settle 66 = .ok (.ldc 218, 2) := by decide +kernel
theorem dX6_settle_68 : decode cX6_settle 68 = .ok (.iastore, 1) := by decide +kernel
theorem dX6_settle_69 : decode cX6_settle 69 = .ok (.iinc 3 1, 3) := by decide +kernel
theorem dX6_settle_72 : decode cX6_settle 72 = .ok (.goto (-42), 3) := by decide +kernel
theorem dX6_settle_75 : decode cX6_settle 75 = .ok (.iinc 2 1, 3) := by decide +kernel
theorem dX6_settle_78 : decode cX6_settle 78 = .ok (.goto (-69), 3) := by decide +kernel
theorem dX6_settle_81 : decode cX6_settle 81 = .ok (.iconst 0, 1) := by decide +kernel
theorem dX6_settle_82 : decode cX6_settle 82 = .ok (.istore_n 2, 1) := by decide +kernel
theorem dX6_settle_83 : decode cX6_settle 83 = .ok (.iload_n 2, 1) := by decide +kernel
theorem dX6_settle_84 : decode cX6_settle 84 = .ok (.aload_n 0, 1) := by decide +kernel
theorem dX6_settle_85 : decode cX6_settle 85 = .ok (.getfield 181, 3) := by decide +kernel
theorem dX6_settle_88 : decode cX6_settle 88 = .ok (.if_icmp .ge 16, 3) := by decide +kernel
theorem dX6_settle_91 : decode cX6_settle 91 = .ok (.aload_n 0, 1) := by decide +kernel
theorem dX6_settle_92 : decode cX6_settle 92 = .ok (.getfield 86, 3) := by decide +kernel
theorem dX6_settle_95 : decode cX6_settle 95 = .ok (.iload_n 2, 1) := by decide +kernel
theorem dX6_settle_96 : decode cX6_settle 96 = .ok (.iconst (-1), 1) := by decide +kernel
theorem dX6_settle_97 : decode cX6_settle 97 = .ok (.iastore, 1) := by decide +kernel
theorem dX6_settle_98 : decode cX6_settle 98 = .ok (.iinc 2 1, 3) := by decide +kernel
theorem dX6_settle_101 : decode cX6_settle 101 = .ok (.goto (-18), 3) := by decide +kernel
theorem dX6_settle_104 : decode cX6_settle 104 = .ok (.iconst 0, 1) := by decide +kernel
theorem dX6_settle_105 : decode cX6_settle 105 = .ok (.istore_n 2, 1) := by decide +kernel
theorem dX6_settle_106 : decode cX6_settle 106 = .ok (.iload_n 2, 1) := by decide +kernel
theorem dX6_settle_107 : decode cX6_settle 107 = .ok (.iload_n 1, 1) := by decide +kernel
theorem dX6_settle_108 : decode cX6_settle 108 = .ok (.if_icmp .ge 26, 3) := by decide +kernel
theorem dX6_settle_111 : decode cX6_settle 111 = .ok (.aload_n 0, 1) := by decide +kernel
theorem dX6_settle_112 : decode cX6_settle 112 = .ok (.getfield 89, 3) := by decide +kernel
theorem dX6_settle_115 : decode cX6_settle 115 = .ok (.iload_n 2, 1) := by decide +kernel
theorem dX6_settle_116 : decode cX6_settle 116 = .ok (.iconst 0, 1) := by decide +kernel
theorem dX6_settle_117 : decode cX6_settle 117 = .ok (.bastore, 1) := by decide +kernel
theorem dX6_settle_118 : decode cX6_settle 118 = .ok (.aload_n 0, 1) := by decide +kernel
theorem dX6_settle_119 : decode cX6_settle 119 = .ok (.iload_n 1, 1) := by decide +kernel
theorem dX6_settle_120 : decode cX6_settle 120 = .ok (.invokevirtual 222, 3) := by decide +kernel
theorem dX6_settle_123 : decode cX6_settle 123 = .ok (.aload_n 0, 1) := by decide +kernel
theorem dX6_settle_124 : decode cX6_settle 124 = .ok (.iload_n 2, 1) := by decide +kernel
theorem dX6_settle_125 : decode cX6_settle 125 = .ok (.invokevirtual 225, 3) := by decide +kernel
theorem dX6_settle_128 : decode cX6_settle 128 = .ok (.iinc 2 1, 3) := by decide +kernel
theorem dX6_settle_131 : decode cX6_settle 131 = .ok (.goto (-25), 3) := by decide +kernel
theorem dX6_settle_134 : decode cX6_settle 134 = .ok (.iconst 0, 1) := by decide +kernel
theorem dX6_settle_135 : decode cX6_settle 135 = .ok (.istore_n 2, 1) := by decide +kernel
theorem dX6_settle_136 : decode cX6_settle 136 = .ok (.iload_n 2, 1) := by decide +kernel
theorem dX6_settle_137 : decode cX6_settle 137 = .ok (.iload_n 1, 1) := by decide +kernel
theorem dX6_settle_138 : decode cX6_settle 138 = .ok (.if_icmp .ge 22, 3) := by decide +kernel
theorem dX6_settle_141 : decode cX6_settle 141 = .ok (.aload_n 0, 1) := by decide +kernel
theorem dX6_settle_142 : decode cX6_settle 142 = .ok (.iload_n 2, 1) := by decide +kernel
theorem dX6_settle_143 : decode cX6_settle 143 = .ok (.iload_n 1, 1) := by decide +kernel
theorem dX6_settle_144 : decode cX6_settle 144 = .ok (.invokevirtual 228, 3) := by decide +kernel
theorem dX6_settle_147 : decode cX6_settle 147 = .ok (.aload_n 0, 1) := by decide +kernel
theorem dX6_settle_148 : decode cX6_settle 148 = .ok (.getfield 89, 3) := by decide +kernel
theorem dX6_settle_151 : decode cX6_settle 151 = .ok (.iload_n 2, 1) := by decide +kernel
theorem dX6_settle_152 : decode cX6_settle 152 = .ok (.iconst 1, 1) := by decide +kernel
theorem dX6_settle_153 : decode cX6_settle 153 = .ok (.bastore, 1) := by decide +kernel
theorem dX6_settle_154 : decode cX6_settle 154 = .ok (.iinc 2 1, 3) := by decide +kernel
theorem dX6_settle_157 : decode cX6_settle 157 = .ok (.goto (-21), 3) := by decide +kernel
theorem dX6_settle_160 : decode cX6_settle 160 = .ok (.return_, 1) := by decide +kernel
theorem dX6_offer_0 : decode cX6_offer 0 = .ok (.iload_n 2, 1) := by decide +kernel
theorem dX6_offer_1 : decode cX6_offer 1 = .ok (.aload_n 0, 1) := by decide +kernel
theorem dX6_offer_2 : decode cX6_offer 2 = .ok (.getfield 92, 3) := by decide +kernel
theorem dX6_offer_5 : decode cX6_offer 5 = .ok (.iload_n 1, 1) := by decide +kernel
theorem dX6_offer_6 : decode cX6_offer 6 = .ok (.iaload, 1) := by decide +kernel
theorem dX6_offer_7 : decode cX6_offer 7 = .ok (.if_icmp .lt 4, 3) := by decide +kernel
theorem dX6_offer_10 : decode cX6_offer 10 = .ok (.return_, 1) := by decide +kernel
theorem dX6_offer_11 : decode cX6_offer 11 = .ok (.aload_n 0, 1) := by decide +kernel
theorem dX6_offer_12 : decode cX6_offer 12 = .ok (.getfield 92, 3) := by decide +kernel
theorem dX6_offer_15 : decode cX6_offer 15 = .ok (.iload_n 1, 1) := by decide +kernel
theorem dX6_offer_16 : decode cX6_offer 16 = .ok (.iload_n 2, 1) := by decide +kernel
theorem dX6_offer_17 : decode cX6_offer 17 = .ok (.iastore, 1) := by decide +kernel
theorem dX6_offer_18 : decode cX6_offer 18 = .ok (.aload_n 0, 1) := by decide +kernel
theorem dX6_offer_19 : decode cX6_offer 19 = .ok (.getfield 95, 3) := by decide +kernel
theorem dX6_offer_22 : decode cX6_offer 22 = .ok (.iload_n 1, 1) := by decide +kernel
theorem dX6_offer_23 : decode cX6_offer 23 = .ok (.iload_n 3, 1) := by decide +kernel
theorem dX6_offer_24 : decode cX6_offer 24 = .ok (.iastore, 1) := by decide +kernel
theorem dX6_offer_25 : decode cX6_offer 25 = .ok (.aload_n 0, 1) := by decide +kernel
theorem dX6_offer_26 : decode cX6_offer 26 = .ok (.getfield 98, 3) := by decide +kernel
theorem dX6_offer_29 : decode cX6_offer 29 = .ok (.iload_n 1, 1) := by decide +kernel
theorem dX6_offer_30 : decode cX6_offer 30 = .ok (.iload 4, 2) := by decide +kernel
theorem dX6_offer_32 : decode cX6_offer 32 = .ok (.iastore, 1) := by decide +kernel
theorem dX6_offer_33 : decode cX6_offer 33 = .ok (.aload_n 0, 1) := by decide +kernel
theorem dX6_offer_34 : decode cX6_offer 34 = .ok (.iconst 1, 1) := by decide +kernel
theorem dX6_offer_35 : decode cX6_offer 35 = .ok (.putfield 232, 3) := by decide +kernel
theorem dX6_offer_38 : decode cX6_offer 38 = .ok (.return_, 1) := by decide +kernel
theorem dX6_placeOf_0 : decode cX6_placeOf 0 = .ok (.aload_n 0, 1) := by decide +kernel
theorem dX6_placeOf_1 : decode cX6_placeOf 1 = .ok (.getfield 71, 3) := by decide +kernel
theorem dX6_placeOf_4 : decode cX6_placeOf 4 = .ok (.iload_n 1, 1) := by decide +kernel
theorem dX6_placeOf_5 : decode cX6_placeOf 5 = .ok (.iaload, 1) := by decide +kernel
theorem dX6_placeOf_6 : decode cX6_placeOf 6 = .ok (.iconst (-1), 1) := by decide +kernel
theorem dX6_placeOf_7 : decode cX6_placeOf 7 = .ok (.if_icmp .ne 8, 3) := by decide +kernel
theorem dX6_placeOf_10 : decode cX6_placeOf 10 = .ok (.bipush 20, 2) := by decide +kernel
theorem dX6_placeOf_12 : decode cX6_placeOf 12 = .ok (.goto 9, 3) := by decide +kernel
theorem dX6_placeOf_15 : decode cX6_placeOf 15 = .ok (.aload_n 0, 1) := by decide +kernel
theorem dX6_placeOf_16 : decode cX6_placeOf 16 = .ok (.getfield 71, 3) := by decide +kernel
theorem dX6_placeOf_19 : decode cX6_placeOf 19 = .ok (.iload_n 1, 1) := by decide +kernel
theorem dX6_placeOf_20 : decode cX6_placeOf 20 = .ok (.iaload, 1) := by decide +kernel
theorem dX6_placeOf_21 : decode cX6_placeOf 21 = .ok (.ireturn, 1) := by decide +kernel
theorem dX6_ways_0 : decode cX6_ways 0 = .ok (.iconst 0, 1) := by decide +kernel
theorem dX6_ways_1 : decode cX6_ways 1 = .ok (.istore 4, 2) := by decide +kernel
theorem dX6_ways_3 : decode cX6_ways 3 = .ok (.iload 4, 2) := by decide +kernel
theorem dX6_ways_5 : decode cX6_ways 5 = .ok (.bipush 22, 2) := by decide +kernel
theorem dX6_ways_7 : decode cX6_ways 7 = .ok (.if_icmp .ge 18, 3) := by decide +kernel
theorem dX6_ways_10 : decode cX6_ways 10 = .ok (.aload_n 0, 1) := by decide +kernel
theorem dX6_ways_11 : decode cX6_ways 11 = .ok (.getfield 92, 3) := by decide +kernel
theorem dX6_ways_14 : decode cX6_ways 14 = .ok (.iload 4, 2) := by decide +kernel
theorem dX6_ways_16 : decode cX6_ways 16 = .ok (.ldc 218, 2) := by decide +kernel
theorem dX6_ways_18 : decode cX6_ways 18 = .ok (.iastore, 1) := by decide +kernel
theorem dX6_ways_19 : decode cX6_ways 19 = .ok (.iinc 4 1, 3) := by decide +kernel
theorem dX6_ways_22 : decode cX6_ways 22 = .ok (.goto (-19), 3) := by decide +kernel
theorem dX6_ways_25 : decode cX6_ways 25 = .ok (.aload_n 0, 1) := by decide +kernel
theorem dX6_ways_26 : decode cX6_ways 26 = .ok (.getfield 92, 3) := by decide +kernel
theorem dX6_ways_29 : decode cX6_ways 29 = .ok (.iload_n 1, 1) := by decide +kernel
theorem dX6_ways_30 : decode cX6_ways 30 = .ok (.iconst 0, 1) := by decide +kernel
theorem dX6_ways_31 : decode cX6_ways 31 = .ok (.iastore, 1) := by decide +kernel
theorem dX6_ways_32 : decode cX6_ways 32 = .ok (.aload_n 0, 1) := by decide +kernel
theorem dX6_ways_33 : decode cX6_ways 33 = .ok (.getfield 95, 3) := by decide +kernel
theorem dX6_ways_36 : decode cX6_ways 36 = .ok (.iload_n 1, 1) := by decide +kernel
theorem dX6_ways_37 : decode cX6_ways 37 = .ok (.iconst (-1), 1) := by decide +kernel
theorem dX6_ways_38 : decode cX6_ways 38 = .ok (.iastore, 1) := by decide +kernel
theorem dX6_ways_39 : decode cX6_ways 39 = .ok (.aload_n 0, 1) := by decide +kernel
theorem dX6_ways_40 : decode cX6_ways 40 = .ok (.iconst 1, 1) := by decide +kernel
theorem dX6_ways_41 : decode cX6_ways 41 = .ok (.putfield 232, 3) := by decide +kernel
theorem dX6_ways_44 : decode cX6_ways 44 = .ok (.aload_n 0, 1) := by decide +kernel
theorem dX6_ways_45 : decode cX6_ways 45 = .ok (.getfield 232, 3) := by decide +kernel
theorem dX6_ways_48 : decode cX6_ways 48 = .ok (.ifCond .eq 231, 3) := by decide +kernel
theorem dX6_ways_51 : decode cX6_ways 51 = .ok (.aload_n 0, 1) := by decide +kernel
theorem dX6_ways_52 : decode cX6_ways 52 = .ok (.iconst 0, 1) := by decide +kernel
theorem dX6_ways_53 : decode cX6_ways 53 = .ok (.putfield 232, 3) := by decide +kernel
theorem dX6_ways_56 : decode cX6_ways 56 = .ok (.iconst 0, 1) := by decide +kernel
theorem dX6_ways_57 : decode cX6_ways 57 = .ok (.istore 4, 2) := by decide +kernel
theorem dX6_ways_59 : decode cX6_ways 59 = .ok (.iload 4, 2) := by decide +kernel
theorem dX6_ways_61 : decode cX6_ways 61 = .ok (.iload_n 3, 1) := by decide +kernel
theorem dX6_ways_62 : decode cX6_ways 62 = .ok (.if_icmp .ge 47, 3) := by decide +kernel
theorem dX6_ways_65 : decode cX6_ways 65 = .ok (.iload 4, 2) := by decide +kernel
theorem dX6_ways_67 : decode cX6_ways 67 = .ok (.iload_n 2, 1) := by decide +kernel
theorem dX6_ways_68 : decode cX6_ways 68 = .ok (.if_icmp .eq 35, 3) := by decide +kernel
theorem dX6_ways_71 : decode cX6_ways 71 = .ok (.aload_n 0, 1) := by decide +kernel
theorem dX6_ways_72 : decode cX6_ways 72 = .ok (.getfield 89, 3) := by decide +kernel
theorem dX6_ways_75 : decode cX6_ways 75 = .ok (.iload 4, 2) := by decide +kernel
theorem dX6_ways_77 : decode cX6_ways 77 = .ok (.baload, 1) := by decide +kernel
theorem dX6_ways_78 : decode cX6_ways 78 = .ok (.ifCond .ne 25, 3) := by decide +kernel
theorem dX6_ways_81 : decode cX6_ways 81 = .ok (.aload_n 0, 1) := by decide +kernel
theorem dX6_ways_82 : decode cX6_ways 82 = .ok (.getfield 92, 3) := by decide +kernel
theorem dX6_ways_85 : decode cX6_ways 85 = .ok (.aload_n 0, 1) := by decide +kernel
theorem dX6_ways_86 : decode cX6_ways 86 = .ok (.iload 4, 2) := by decide +kernel
theorem dX6_ways_88 : decode cX6_ways 88 = .ok (.invokevirtual 236, 3) := by decide +kernel
theorem dX6_ways_91 : decode cX6_ways 91 = .ok (.iaload, 1) := by decide +kernel
theorem dX6_ways_92 : decode cX6_ways 92 = .ok (.ldc 218, 2) := by decide +kernel
theorem dX6_ways_94 : decode cX6_ways 94 = .ok (.if_icmp .ge 9, 3) := by decide +kernel
theorem dX6_ways_97 : decode cX6_ways 97 = .ok (.aload_n 0, 1) := by decide +kernel
theorem dX6_ways_98 : decode cX6_ways 98 = .ok (.iload 4, 2) := by decide +kernel
theorem dX6_ways_100 : decode cX6_ways 100 = .ok (.invokevirtual 239, 3) := by decide +kernel
theorem dX6_ways_103 : decode cX6_ways 103 = .ok (.iinc 4 1, 3) := by decide +kernel
theorem dX6_ways_106 : decode cX6_ways 106 = .ok (.goto (-47), 3) := by decide +kernel
theorem dX6_ways_109 : decode cX6_ways 109 = .ok (.iconst 0, 1) := by decide +kernel
theorem dX6_ways_110 : decode cX6_ways 110 = .ok (.istore 4, 2) := by decide +kernel
theorem dX6_ways_112 : decode cX6_ways 112 = .ok (.iload 4, 2) := by decide +kernel
theorem dX6_ways_114 : decode cX6_ways 114 = .ok (.aload_n 0, 1) := by decide +kernel
theorem dX6_ways_115 : decode cX6_ways 115 = .ok (.getfield 181, 3) := by decide +kernel
theorem dX6_ways_118 : decode cX6_ways 118 = .ok (.if_icmp .ge 102, 3) := by decide +kernel
theorem dX6_ways_121 : decode cX6_ways 121 = .ok (.aload_n 0, 1) := by decide +kernel
theorem dX6_ways_122 : decode cX6_ways 122 = .ok (.getfield 86, 3) := by decide +kernel
theorem dX6_ways_125 : decode cX6_ways 125 = .ok (.iload 4, 2) := by decide +kernel
theorem dX6_ways_127 : decode cX6_ways 127 = .ok (.iaload, 1) := by decide +kernel
theorem dX6_ways_128 : decode cX6_ways 128 = .ok (.iconst (-1), 1) := by decide +kernel
theorem dX6_ways_129 : decode cX6_ways 129 = .ok (.if_icmp .ne 31, 3) := by decide +kernel
theorem dX6_ways_132 : decode cX6_ways 132 = .ok (.aload_n 0, 1) := by decide +kernel
theorem dX6_ways_133 : decode cX6_ways 133 = .ok (.getfield 92, 3) := by decide +kernel
theorem dX6_ways_136 : decode cX6_ways 136 = .ok (.iload 4, 2) := by decide +kernel
theorem dX6_ways_138 : decode cX6_ways 138 = .ok (.iaload, 1) := by decide +kernel
theorem dX6_ways_139 : decode cX6_ways 139 = .ok (.ldc 218, 2) := by decide +kernel
theorem dX6_ways_141 : decode cX6_ways 141 = .ok (.if_icmp .ge 19, 3) := by decide +kernel
theorem dX6_ways_144 : decode cX6_ways 144 = .ok (.aload_n 0, 1) := by decide +kernel
theorem dX6_ways_145 : decode cX6_ways 145 = .ok (.bipush 21, 2) := by decide +kernel
theorem dX6_ways_147 : decode cX6_ways 147 = .ok (.aload_n 0, 1) := by decide +kernel
theorem dX6_ways_148 : decode cX6_ways 148 = .ok (.getfield 92, 3) := by decide +kernel
theorem dX6_ways_151 : decode cX6_ways 151 = .ok (.iload 4, 2) := by decide +kernel
theorem dX6_ways_153 : decode cX6_ways 153 = .ok (.iaload, 1) := by decide +kernel
theorem dX6_ways_154 : decode cX6_ways 154 = .ok (.iload 4, 2) := by decide +kernel
theorem dX6_ways_156 : decode cX6_ways 156 = .ok (.iconst (-1), 1) := by decide +kernel
theorem dX6_ways_157 : decode cX6_ways 157 = .ok (.invokevirtual 242, 3) := by decide +kernel
theorem dX6_ways_160 : decode cX6_ways 160 = .ok (.aload_n 0, 1) := by decide +kernel
theorem dX6_ways_161 : decode cX6_ways 161 = .ok (.getfield 86, 3) := by decide +kernel
theorem dX6_ways_164 : decode cX6_ways 164 = .ok (.iload 4, 2) := by decide +kernel
theorem dX6_ways_166 : decode cX6_ways 166 = .ok (.iaload, 1) := by decide +kernel
theorem dX6_ways_167 : decode cX6_ways 167 = .ok (.iconst (-1), 1) := by decide +kernel
theorem dX6_ways_168 : decode cX6_ways 168 = .ok (.if_icmp .eq 46, 3) := by decide +kernel
theorem dX6_ways_171 : decode cX6_ways 171 = .ok (.aload_n 0, 1) := by decide +kernel
theorem dX6_ways_172 : decode cX6_ways 172 = .ok (.getfield 89, 3) := by decide +kernel
theorem dX6_ways_175 : decode cX6_ways 175 = .ok (.aload_n 0, 1) := by decide +kernel
theorem dX6_ways_176 : decode cX6_ways 176 = .ok (.getfield 86, 3) := by decide +kernel
theorem dX6_ways_179 : decode cX6_ways 179 = .ok (.iload 4, 2) := by decide +kernel
theorem dX6_ways_181 : decode cX6_ways 181 = .ok (.iaload, 1) := by decide +kernel
theorem dX6_ways_182 : decode cX6_ways 182 = .ok (.baload, 1) := by decide +kernel
theorem dX6_ways_183 : decode cX6_ways 183 = .ok (.ifCond .ne 31, 3) := by decide +kernel
theorem dX6_ways_186 : decode cX6_ways 186 = .ok (.aload_n 0, 1) := by decide +kernel
theorem dX6_ways_187 : decode cX6_ways 187 = .ok (.getfield 92, 3) := by decide +kernel
theorem dX6_ways_190 : decode cX6_ways 190 = .ok (.bipush 21, 2) := by decide +kernel
theorem dX6_ways_192 : decode cX6_ways 192 = .ok (.iaload, 1) := by decide +kernel
theorem dX6_ways_193 : decode cX6_ways 193 = .ok (.ldc 218, 2) := by decide +kernel
theorem dX6_ways_195 : decode cX6_ways 195 = .ok (.if_icmp .ge 19, 3) := by decide +kernel
theorem dX6_ways_198 : decode cX6_ways 198 = .ok (.aload_n 0, 1) := by decide +kernel
theorem dX6_ways_199 : decode cX6_ways 199 = .ok (.iload 4, 2) := by decide +kernel
theorem dX6_ways_201 : decode cX6_ways 201 = .ok (.aload_n 0, 1) := by decide +kernel
theorem dX6_ways_202 : decode cX6_ways 202 = .ok (.getfield 92, 3) := by decide +kernel
theorem dX6_ways_205 : decode cX6_ways 205 = .ok (.bipush 21, 2) := by decide +kernel
theorem dX6_ways_207 : decode cX6_ways 207 = .ok (.iaload, 1) := by decide +kernel
theorem dX6_ways_208 : decode cX6_ways 208 = .ok (.bipush 21, 2) := by decide +kernel
theorem dX6_ways_210 : decode cX6_ways 210 = .ok (.iconst (-1), 1) := by decide +kernel
theorem dX6_ways_211 : decode cX6_ways 211 = .ok (.invokevirtual 242, 3) := by decide +kernel
theorem dX6_ways_214 : decode cX6_ways 214 = .ok (.iinc 4 1, 3) := by decide +kernel
theorem dX6_ways_217 : decode cX6_ways 217 = .ok (.goto (-105), 3) := by decide +kernel
theorem dX6_ways_220 : decode cX6_ways 220 = .ok (.aload_n 0, 1) := by decide +kernel
theorem dX6_ways_221 : decode cX6_ways 221 = .ok (.getfield 92, 3) := by decide +kernel
theorem dX6_ways_224 : decode cX6_ways 224 = .ok (.bipush 20, 2) := by decide +kernel
theorem dX6_ways_226 : decode cX6_ways 226 = .ok (.iaload, 1) := by decide +kernel
theorem dX6_ways_227 : decode cX6_ways 227 = .ok (.ldc 218, 2) := by decide +kernel
theorem dX6_ways_229 : decode cX6_ways 229 = .ok (.if_icmp .ge 19, 3) := by decide +kernel
theorem dX6_ways_232 : decode cX6_ways 232 = .ok (.aload_n 0, 1) := by decide +kernel
theorem dX6_ways_233 : decode cX6_ways 233 = .ok (.bipush 21, 2) := by decide +kernel
theorem dX6_ways_235 : decode cX6_ways 235 = .ok (.aload_n 0, 1) := by decide +kernel
theorem dX6_ways_236 : decode cX6_ways 236 = .ok (.getfield 92, 3) := by decide +kernel
theorem dX6_ways_239 : decode cX6_ways 239 = .ok (.bipush 20, 2) := by decide +kernel
theorem dX6_ways_241 : decode cX6_ways 241 = .ok (.iaload, 1) := by decide +kernel
theorem dX6_ways_242 : decode cX6_ways 242 = .ok (.bipush 20, 2) := by decide +kernel
theorem dX6_ways_244 : decode cX6_ways 244 = .ok (.iconst (-1), 1) := by decide +kernel
theorem dX6_ways_245 : decode cX6_ways 245 = .ok (.invokevirtual 242, 3) := by decide +kernel
theorem dX6_ways_248 : decode cX6_ways 248 = .ok (.aload_n 0, 1) := by decide +kernel
theorem dX6_ways_249 : decode cX6_ways 249 = .ok (.getfield 92, 3) := by decide +kernel
theorem dX6_ways_252 : decode cX6_ways 252 = .ok (.bipush 21, 2) := by decide +kernel
theorem dX6_ways_254 : decode cX6_ways 254 = .ok (.iaload, 1) := by decide +kernel
theorem dX6_ways_255 : decode cX6_ways 255 = .ok (.ldc 218, 2) := by decide +kernel
theorem dX6_ways_257 : decode cX6_ways 257 = .ok (.if_icmp .ge (-213), 3) := by decide +kernel
theorem dX6_ways_260 : decode cX6_ways 260 = .ok (.aload_n 0, 1) := by decide +kernel
theorem dX6_ways_261 : decode cX6_ways 261 = .ok (.bipush 20, 2) := by decide +kernel
theorem dX6_ways_263 : decode cX6_ways 263 = .ok (.aload_n 0, 1) := by decide +kernel
theorem dX6_ways_264 : decode cX6_ways 264 = .ok (.getfield 92, 3) := by decide +kernel
theorem dX6_ways_267 : decode cX6_ways 267 = .ok (.bipush 21, 2) := by decide +kernel
theorem dX6_ways_269 : decode cX6_ways 269 = .ok (.iaload, 1) := by decide +kernel
theorem dX6_ways_270 : decode cX6_ways 270 = .ok (.bipush 21, 2) := by decide +kernel
theorem dX6_ways_272 : decode cX6_ways 272 = .ok (.iconst (-1), 1) := by decide +kernel
theorem dX6_ways_273 : decode cX6_ways 273 = .ok (.invokevirtual 242, 3) := by decide +kernel
theorem dX6_ways_276 : decode cX6_ways 276 = .ok (.goto (-232), 3) := by decide +kernel
theorem dX6_ways_279 : decode cX6_ways 279 = .ok (.return_, 1) := by decide +kernel
theorem dX6_moves_0 : decode cX6_moves 0 = .ok (.aload_n 0, 1) := by decide +kernel
theorem dX6_moves_1 : decode cX6_moves 1 = .ok (.iload_n 1, 1) := by decide +kernel
theorem dX6_moves_2 : decode cX6_moves 2 = .ok (.invokevirtual 236, 3) := by decide +kernel
theorem dX6_moves_5 : decode cX6_moves 5 = .ok (.istore_n 2, 1) := by decide +kernel
theorem dX6_moves_6 : decode cX6_moves 6 = .ok (.aload_n 0, 1) := by decide +kernel
theorem dX6_moves_7 : decode cX6_moves 7 = .ok (.getfield 92, 3) := by decide +kernel
theorem dX6_moves_10 : decode cX6_moves 10 = .ok (.iload_n 2, 1) := by decide +kernel
theorem dX6_moves_11 : decode cX6_moves 11 = .ok (.iaload, 1) := by decide +kernel
theorem dX6_moves_12 : decode cX6_moves 12 = .ok (.aload_n 0, 1) := by decide +kernel
theorem dX6_moves_13 : decode cX6_moves 13 = .ok (.iload_n 1, 1) := by decide +kernel
theorem dX6_moves_14 : decode cX6_moves 14 = .ok (.invokevirtual 219, 3) := by decide +kernel
theorem dX6_moves_17 : decode cX6_moves 17 = .ok (.isub, 1) := by decide +kernel
theorem dX6_moves_18 : decode cX6_moves 18 = .ok (.istore_n 3, 1) := by decide +kernel
theorem dX6_moves_19 : decode cX6_moves 19 = .ok (.iload_n 2, 1) := by decide +kernel
theorem dX6_moves_20 : decode cX6_moves 20 = .ok (.bipush 20, 2) := by decide +kernel
theorem dX6_moves_22 : decode cX6_moves 22 = .ok (.if_icmp .eq 15, 3) := by decide +kernel
theorem dX6_moves_25 : decode cX6_moves 25 = .ok (.aload_n 0, 1) := by decide +kernel
theorem dX6_moves_26 : decode cX6_moves 26 = .ok (.bipush 20, 2) := by decide +kernel
theorem dX6_moves_28 : decode cX6_moves 28 = .ok (.iload_n 3, 1) := by decide +kernel
theorem dX6_moves_29 : decode cX6_moves 29 = .ok (.ldc 217, 2) := by decide +kernel
theorem dX6_moves_31 : decode cX6_moves 31 = .ok (.iadd, 1) := by decide +kernel
theorem dX6_moves_32 : decode cX6_moves 32 = .ok (.iload_n 2, 1) := by decide +kernel
theorem dX6_moves_33 : decode cX6_moves 33 = .ok (.iload_n 1, 1) := by decide +kernel
theorem dX6_moves_34 : decode cX6_moves 34 = .ok (.invokevirtual 242, 3) := by decide +kernel
theorem dX6_moves_37 : decode cX6_moves 37 = .ok (.iconst 0, 1) := by decide +kernel
theorem dX6_moves_38 : decode cX6_moves 38 = .ok (.istore 4, 2) := by decide +kernel
theorem dX6_moves_40 : decode cX6_moves 40 = .ok (.iload 4, 2) := by decide +kernel
theorem dX6_moves_42 : decode cX6_moves 42 = .ok (.aload_n 0, 1) := by decide +kernel
theorem dX6_moves_43 : decode cX6_moves 43 = .ok (.getfield 181, 3) := by decide +kernel
theorem dX6_moves_46 : decode cX6_moves 46 = .ok (.if_icmp .ge 83, 3) := by decide +kernel
theorem dX6_moves_49 : decode cX6_moves 49 = .ok (.iload 4, 2) := by decide +kernel
theorem dX6_moves_51 : decode cX6_moves 51 = .ok (.iload_n 2, 1) := by decide +kernel
theorem dX6_moves_52 : decode cX6_moves 52 = .ok (.if_icmp .eq 71, 3) := by decide +kernel
theorem dX6_moves_55 : decode cX6_moves 55 = .ok (.aload_n 0, 1) := by decide +kernel
theorem dX6_moves_56 : decode cX6_moves 56 = .ok (.getfield 83, 3) := by decide +kernel
theorem dX6_moves_59 : decode cX6_moves 59 = .ok (.bipush 20, 2) := by decide +kernel
theorem dX6_moves_61 : decode cX6_moves 61 = .ok (.iload_n 1, 1) := by decide +kernel
theorem dX6_moves_62 : decode cX6_moves 62 = .ok (.imul, 1) := by decide +kernel
theorem dX6_moves_63 : decode cX6_moves 63 = .ok (.iload 4, 2) := by decide +kernel
theorem dX6_moves_65 : decode cX6_moves 65 = .ok (.iadd, 1) := by decide +kernel
theorem dX6_moves_66 : decode cX6_moves 66 = .ok (.iaload, 1) := by decide +kernel
theorem dX6_moves_67 : decode cX6_moves 67 = .ok (.ldc 218, 2) := by decide +kernel
theorem dX6_moves_69 : decode cX6_moves 69 = .ok (.if_icmp .eq 54, 3) := by decide +kernel
theorem dX6_moves_72 : decode cX6_moves 72 = .ok (.aload_n 0, 1) := by decide +kernel
theorem dX6_moves_73 : decode cX6_moves 73 = .ok (.getfield 86, 3) := by decide +kernel
theorem dX6_moves_76 : decode cX6_moves 76 = .ok (.iload 4, 2) := by decide +kernel
theorem dX6_moves_78 : decode cX6_moves 78 = .ok (.iaload, 1) := by decide +kernel
theorem dX6_moves_79 : decode cX6_moves 79 = .ok (.iconst (-1), 1) := by decide +kernel
theorem dX6_moves_80 : decode cX6_moves 80 = .ok (.if_icmp .eq 21, 3) := by decide +kernel
theorem dX6_moves_83 : decode cX6_moves 83 = .ok (.aload_n 0, 1) := by decide +kernel
theorem dX6_moves_84 : decode cX6_moves 84 = .ok (.getfield 89, 3) := by decide +kernel
theorem dX6_moves_87 : decode cX6_moves 87 = .ok (.aload_n 0, 1) := by decide +kernel
theorem dX6_moves_88 : decode cX6_moves 88 = .ok (.getfield 86, 3) := by decide +kernel
theorem dX6_moves_91 : decode cX6_moves 91 = .ok (.iload 4, 2) := by decide +kernel
theorem dX6_moves_93 : decode cX6_moves 93 = .ok (.iaload, 1) := by decide +kernel
theorem dX6_moves_94 : decode cX6_moves 94 = .ok (.baload, 1) := by decide +kernel
theorem dX6_moves_95 : decode cX6_moves 95 = .ok (.ifCond .eq 6, 3) := by decide +kernel
theorem dX6_moves_98 : decode cX6_moves 98 = .ok (.goto 25, 3) := by decide +kernel
theorem dX6_moves_101 : decode cX6_moves 101 = .ok (.aload_n 0, 1) := by decide +kernel
theorem dX6_moves_102 : decode cX6_moves 102 = .ok (.iload 4, 2) := by decide +kernel
theorem dX6_moves_104 : decode cX6_moves 104 = .ok (.iload_n 3, 1) := by decide +kernel
theorem dX6_moves_105 : decode cX6_moves 105 = .ok (.aload_n 0, 1) := by decide +kernel
theorem dX6_moves_106 : decode cX6_moves 106 = .ok (.getfield 83, 3) := by decide +kernel
theorem dX6_moves_109 : decode cX6_moves 109 = .ok (.bipush 20, 2) := by decide +kernel
theorem dX6_moves_111 : decode cX6_moves 111 = .ok (.iload_n 1, 1) := by decide +kernel
theorem dX6_moves_112 : decode cX6_moves 112 = .ok (.imul, 1) := by decide +kernel
theorem dX6_moves_113 : decode cX6_moves 113 = .ok (.iload 4, 2) := by decide +kernel
theorem dX6_moves_115 : decode cX6_moves 115 = .ok (.iadd, 1) := by decide +kernel
theorem dX6_moves_116 : decode cX6_moves 116 = .ok (.iaload, 1) := by decide +kernel
theorem dX6_moves_117 : decode cX6_moves 117 = .ok (.iadd, 1) := by decide +kernel
theorem dX6_moves_118 : decode cX6_moves 118 = .ok (.iload_n 2, 1) := by decide +kernel
theorem dX6_moves_119 : decode cX6_moves 119 = .ok (.iload_n 1, 1) := by decide +kernel
theorem dX6_moves_120 : decode cX6_moves 120 = .ok (.invokevirtual 242, 3) := by decide +kernel
theorem dX6_moves_123 : decode cX6_moves 123 = .ok (.iinc 4 1, 3) := by decide +kernel
theorem dX6_moves_126 : decode cX6_moves 126 = .ok (.goto (-86), 3) := by decide +kernel
theorem dX6_moves_129 : decode cX6_moves 129 = .ok (.return_, 1) := by decide +kernel
theorem dX6_lessen_0 : decode cX6_lessen 0 = .ok (.aload_n 0, 1) := by decide +kernel
theorem dX6_lessen_1 : decode cX6_lessen 1 = .ok (.iload_n 1, 1) := by decide +kernel
theorem dX6_lessen_2 : decode cX6_lessen 2 = .ok (.invokevirtual 236, 3) := by decide +kernel
theorem dX6_lessen_5 : decode cX6_lessen 5 = .ok (.istore_n 3, 1) := by decide +kernel
theorem dX6_lessen_6 : decode cX6_lessen 6 = .ok (.iconst 0, 1) := by decide +kernel
theorem dX6_lessen_7 : decode cX6_lessen 7 = .ok (.istore 4, 2) := by decide +kernel
theorem dX6_lessen_9 : decode cX6_lessen 9 = .ok (.iload 4, 2) := by decide +kernel
theorem dX6_lessen_11 : decode cX6_lessen 11 = .ok (.aload_n 0, 1) := by decide +kernel
theorem dX6_lessen_12 : decode cX6_lessen 12 = .ok (.getfield 181, 3) := by decide +kernel
theorem dX6_lessen_15 : decode cX6_lessen 15 = .ok (.if_icmp .ge 244, 3) := by decide +kernel
theorem dX6_lessen_18 : decode cX6_lessen 18 = .ok (.iload 4, 2) := by decide +kernel
theorem dX6_lessen_20 : decode cX6_lessen 20 = .ok (.iload_n 3, 1) := by decide +kernel
theorem dX6_lessen_21 : decode cX6_lessen 21 = .ok (.if_icmp .eq 238, 3) := by decide +kernel
theorem dX6_lessen_24 : decode cX6_lessen 24 = .ok (.aload_n 0, 1) := by decide +kernel
theorem dX6_lessen_25 : decode cX6_lessen 25 = .ok (.getfield 83, 3) := by decide +kernel
theorem dX6_lessen_28 : decode cX6_lessen 28 = .ok (.bipush 20, 2) := by decide +kernel
theorem dX6_lessen_30 : decode cX6_lessen 30 = .ok (.iload_n 1, 1) := by decide +kernel
theorem dX6_lessen_31 : decode cX6_lessen 31 = .ok (.imul, 1) := by decide +kernel
theorem dX6_lessen_32 : decode cX6_lessen 32 = .ok (.iload 4, 2) := by decide +kernel
theorem dX6_lessen_34 : decode cX6_lessen 34 = .ok (.iadd, 1) := by decide +kernel
theorem dX6_lessen_35 : decode cX6_lessen 35 = .ok (.iaload, 1) := by decide +kernel
theorem dX6_lessen_36 : decode cX6_lessen 36 = .ok (.ldc 218, 2) := by decide +kernel
theorem dX6_lessen_38 : decode cX6_lessen 38 = .ok (.if_icmp .eq 215, 3) := by decide +kernel
theorem dX6_lessen_41 : decode cX6_lessen 41 = .ok (.aload_n 0, 1) := by decide +kernel
theorem dX6_lessen_42 : decode cX6_lessen 42 = .ok (.getfield 86, 3) := by decide +kernel
theorem dX6_lessen_45 : decode cX6_lessen 45 = .ok (.iload 4, 2) := by decide +kernel
theorem dX6_lessen_47 : decode cX6_lessen 47 = .ok (.iaload, 1) := by decide +kernel
theorem dX6_lessen_48 : decode cX6_lessen 48 = .ok (.iconst (-1), 1) := by decide +kernel
theorem dX6_lessen_49 : decode cX6_lessen 49 = .ok (.if_icmp .eq 21, 3) := by decide +kernel
theorem dX6_lessen_52 : decode cX6_lessen 52 = .ok (.aload_n 0, 1) := by decide +kernel
theorem dX6_lessen_53 : decode cX6_lessen 53 = .ok (.getfield 89, 3) := by decide +kernel
theorem dX6_lessen_56 : decode cX6_lessen 56 = .ok (.aload_n 0, 1) := by decide +kernel
theorem dX6_lessen_57 : decode cX6_lessen 57 = .ok (.getfield 86, 3) := by decide +kernel
theorem dX6_lessen_60 : decode cX6_lessen 60 = .ok (.iload 4, 2) := by decide +kernel
theorem dX6_lessen_62 : decode cX6_lessen 62 = .ok (.iaload, 1) := by decide +kernel
theorem dX6_lessen_63 : decode cX6_lessen 63 = .ok (.baload, 1) := by decide +kernel
theorem dX6_lessen_64 : decode cX6_lessen 64 = .ok (.ifCond .eq 6, 3) := by decide +kernel
theorem dX6_lessen_67 : decode cX6_lessen 67 = .ok (.goto 186, 3) := by decide +kernel
theorem dX6_lessen_70 : decode cX6_lessen 70 = .ok (.aload_n 0, 1) := by decide +kernel
theorem dX6_lessen_71 : decode cX6_lessen 71 = .ok (.iload 4, 2) := by decide +kernel
theorem dX6_lessen_73 : decode cX6_lessen 73 = .ok (.iload_n 1, 1) := by decide +kernel
theorem dX6_lessen_74 : decode cX6_lessen 74 = .ok (.iload_n 2, 1) := by decide +kernel
theorem dX6_lessen_75 : decode cX6_lessen 75 = .ok (.invokevirtual 246, 3) := by decide +kernel
theorem dX6_lessen_78 : decode cX6_lessen 78 = .ok (.aload_n 0, 1) := by decide +kernel
theorem dX6_lessen_79 : decode cX6_lessen 79 = .ok (.getfield 92, 3) := by decide +kernel
theorem dX6_lessen_82 : decode cX6_lessen 82 = .ok (.iload_n 3, 1) := by decide +kernel
theorem dX6_lessen_83 : decode cX6_lessen 83 = .ok (.iaload, 1) := by decide +kernel
theorem dX6_lessen_84 : decode cX6_lessen 84 = .ok (.ldc 218, 2) := by decide +kernel
theorem dX6_lessen_86 : decode cX6_lessen 86 = .ok (.if_icmp .eq 167, 3) := by decide +kernel
theorem dX6_lessen_89 : decode cX6_lessen 89 = .ok (.aload_n 0, 1) := by decide +kernel
theorem dX6_lessen_90 : decode cX6_lessen 90 = .ok (.getfield 83, 3) := by decide +kernel
theorem dX6_lessen_93 : decode cX6_lessen 93 = .ok (.bipush 20, 2) := by decide +kernel
theorem dX6_lessen_95 : decode cX6_lessen 95 = .ok (.iload_n 1, 1) := by decide +kernel
theorem dX6_lessen_96 : decode cX6_lessen 96 = .ok (.imul, 1) := by decide +kernel
theorem dX6_lessen_97 : decode cX6_lessen 97 = .ok (.iload 4, 2) := by decide +kernel
theorem dX6_lessen_99 : decode cX6_lessen 99 = .ok (.iadd, 1) := by decide +kernel
theorem dX6_lessen_100 : decode cX6_lessen 100 = .ok (.iaload, 1) := by decide +kernel
theorem dX6_lessen_101 : decode cX6_lessen 101 = .ok (.aload_n 0, 1) := by decide +kernel
theorem dX6_lessen_102 : decode cX6_lessen 102 = .ok (.iload_n 1, 1) := by decide +kernel
theorem dX6_lessen_103 : decode cX6_lessen 103 = .ok (.invokevirtual 219, 3) := by decide +kernel
theorem dX6_lessen_106 : decode cX6_lessen 106 = .ok (.isub, 1) := by decide +kernel
theorem dX6_lessen_107 : decode cX6_lessen 107 = .ok (.aload_n 0, 1) := by decide +kernel
theorem dX6_lessen_108 : decode cX6_lessen 108 = .ok (.getfield 92, 3) := by decide +kernel
theorem dX6_lessen_111 : decode cX6_lessen 111 = .ok (.iload_n 3, 1) := by decide +kernel
theorem dX6_lessen_112 : decode cX6_lessen 112 = .ok (.iaload, 1) := by decide +kernel
theorem dX6_lessen_113 : decode cX6_lessen 113 = .ok (.iadd, 1) := by decide +kernel
theorem dX6_lessen_114 : decode cX6_lessen 114 = .ok (.ifCond .eq 6, 3) := by decide +kernel
theorem dX6_lessen_117 : decode cX6_lessen 117 = .ok (.goto 136, 3) := by decide +kernel
theorem dX6_lessen_120 : decode cX6_lessen 120 = .ok (.iload_n 3, 1) := by decide +kernel
theorem dX6_lessen_121 : decode cX6_lessen 121 = .ok (.istore 5, 2) := by decide +kernel
theorem dX6_lessen_123 : decode cX6_lessen 123 = .ok (.iload 5, 2) := by decide +kernel
theorem dX6_lessen_125 : decode cX6_lessen 125 = .ok (.iload 4, 2) := by decide +kernel
theorem dX6_lessen_127 : decode cX6_lessen 127 = .ok (.if_icmp .eq 51, 3) := by decide +kernel
theorem dX6_lessen_130 : decode cX6_lessen 130 = .ok (.aload_n 0, 1) := by decide +kernel
theorem dX6_lessen_131 : decode cX6_lessen 131 = .ok (.getfield 98, 3) := by decide +kernel
theorem dX6_lessen_134 : decode cX6_lessen 134 = .ok (.iload 5, 2) := by decide +kernel
theorem dX6_lessen_136 : decode cX6_lessen 136 = .ok (.iaload, 1) := by decide +kernel
theorem dX6_lessen_137 : decode cX6_lessen 137 = .ok (.iconst (-1), 1) := by decide +kernel
theorem dX6_lessen_138 : decode cX6_lessen 138 = .ok (.if_icmp .eq 28, 3) := by decide +kernel
theorem dX6_lessen_141 : decode cX6_lessen 141 = .ok (.aload_n 0, 1) := by decide +kernel
theorem dX6_lessen_142 : decode cX6_lessen 142 = .ok (.getfield 71, 3) := by decide +kernel
theorem dX6_lessen_145 : decode cX6_lessen 145 = .ok (.aload_n 0, 1) := by decide +kernel
theorem dX6_lessen_146 : decode cX6_lessen 146 = .ok (.getfield 98, 3) := by decide +kernel
theorem dX6_lessen_149 : decode cX6_lessen 149 = .ok (.iload 5, 2) := by decide +kernel
theorem dX6_lessen_151 : decode cX6_lessen 151 = .ok (.iaload, 1) := by decide +kernel
theorem dX6_lessen_152 : decode cX6_lessen 152 = .ok (.iload 5, 2) := by decide +kernel
theorem dX6_lessen_154 : decode cX6_lessen 154 = .ok (.bipush 20, 2) := by decide +kernel
theorem dX6_lessen_156 : decode cX6_lessen 156 = .ok (.if_icmp .ne 7, 3) := by decide +kernel
theorem dX6_lessen_159 : decode cX6_lessen 159 = .ok (.iconst (-1), 1) := by decide +kernel
theorem dX6_lessen_160 : decode cX6_lessen 160 = .ok (.goto 5, 3) := by decide +kernel
theorem dX6_lessen_163 : decode cX6_lessen 163 = .ok (.iload 5, 2) := by decide +kernel
theorem dX6_lessen_165 : decode cX6_lessen 165 = .ok (.iastore, 1) := by decide +kernel
theorem dX6_lessen_166 : decode cX6_lessen 166 = .ok (.aload_n 0, 1) := by decide +kernel
theorem dX6_lessen_167 : decode cX6_lessen 167 = .ok (.getfield 95, 3) := by decide +kernel
theorem dX6_lessen_170 : decode cX6_lessen 170 = .ok (.iload 5, 2) := by decide +kernel
theorem dX6_lessen_172 : decode cX6_lessen 172 = .ok (.iaload, 1) := by decide +kernel
theorem dX6_lessen_173 : decode cX6_lessen 173 = .ok (.istore 5, 2) := by decide +kernel
theorem dX6_lessen_175 : decode cX6_lessen 175 = .ok (.goto (-52), 3) := by decide +kernel
theorem dX6_lessen_178 : decode cX6_lessen 178 = .ok (.aload_n 0, 1) := by decide +kernel
theorem dX6_lessen_179 : decode cX6_lessen 179 = .ok (.getfield 71, 3) := by decide +kernel
theorem dX6_lessen_182 : decode cX6_lessen 182 = .ok (.iload_n 1, 1) := by decide +kernel
theorem dX6_lessen_183 : decode cX6_lessen 183 = .ok (.iload 4, 2) := by decide +kernel
theorem dX6_lessen_185 : decode cX6_lessen 185 = .ok (.iastore, 1) := by decide +kernel
theorem dX6_lessen_186 : decode cX6_lessen 186 = .ok (.iconst 0, 1) := by decide +kernel
theorem dX6_lessen_187 : decode cX6_lessen 187 = .ok (.istore 6, 2) := by decide +kernel
theorem dX6_lessen_189 : decode cX6_lessen 189 = .ok (.iload 6, 2) := by decide +kernel
theorem dX6_lessen_191 : decode cX6_lessen 191 = .ok (.aload_n 0, 1) := by decide +kernel
theorem dX6_lessen_192 : decode cX6_lessen 192 = .ok (.getfield 181, 3) := by decide +kernel
theorem dX6_lessen_195 : decode cX6_lessen 195 = .ok (.if_icmp .ge 17, 3) := by decide +kernel
theorem dX6_lessen_198 : decode cX6_lessen 198 = .ok (.aload_n 0, 1) := by decide +kernel
theorem dX6_lessen_199 : decode cX6_lessen 199 = .ok (.getfield 86, 3) := by decide +kernel
theorem dX6_lessen_202 : decode cX6_lessen 202 = .ok (.iload 6, 2) := by decide +kernel
theorem dX6_lessen_204 : decode cX6_lessen 204 = .ok (.iconst (-1), 1) := by decide +kernel
theorem dX6_lessen_205 : decode cX6_lessen 205 = .ok (.iastore, 1) := by decide +kernel
theorem dX6_lessen_206 : decode cX6_lessen 206 = .ok (.iinc 6 1, 3) := by decide +kernel
theorem dX6_lessen_209 : decode cX6_lessen 209 = .ok (.goto (-20), 3) := by decide +kernel
theorem dX6_lessen_212 : decode cX6_lessen 212 = .ok (.iconst 0, 1) := by decide +kernel
theorem dX6_lessen_213 : decode cX6_lessen 213 = .ok (.istore 6, 2) := by decide +kernel
theorem dX6_lessen_215 : decode cX6_lessen 215 = .ok (.iload 6, 2) := by decide +kernel
theorem dX6_lessen_217 : decode cX6_lessen 217 = .ok (.iload_n 2, 1) := by decide +kernel
theorem dX6_lessen_218 : decode cX6_lessen 218 = .ok (.if_icmp .ge 34, 3) := by decide +kernel
theorem dX6_lessen_221 : decode cX6_lessen 221 = .ok (.aload_n 0, 1) := by decide +kernel
theorem dX6_lessen_222 : decode cX6_lessen 222 = .ok (.getfield 71, 3) := by decide +kernel
theorem dX6_lessen_225 : decode cX6_lessen 225 = .ok (.iload 6, 2) := by decide +kernel
theorem dX6_lessen_227 : decode cX6_lessen 227 = .ok (.iaload, 1) := by decide +kernel
theorem dX6_lessen_228 : decode cX6_lessen 228 = .ok (.iconst (-1), 1) := by decide +kernel
theorem dX6_lessen_229 : decode cX6_lessen 229 = .ok (.if_icmp .eq 17, 3) := by decide +kernel
theorem dX6_lessen_232 : decode cX6_lessen 232 = .ok (.aload_n 0, 1) := by decide +kernel
theorem dX6_lessen_233 : decode cX6_lessen 233 = .ok (.getfield 86, 3) := by decide +kernel
theorem dX6_lessen_236 : decode cX6_lessen 236 = .ok (.aload_n 0, 1) := by decide +kernel
theorem dX6_lessen_237 : decode cX6_lessen 237 = .ok (.getfield 71, 3) := by decide +kernel
theorem dX6_lessen_240 : decode cX6_lessen 240 = .ok (.iload 6, 2) := by decide +kernel
theorem dX6_lessen_242 : decode cX6_lessen 242 = .ok (.iaload, 1) := by decide +kernel
theorem dX6_lessen_243 : decode cX6_lessen 243 = .ok (.iload 6, 2) := by decide +kernel
theorem dX6_lessen_245 : decode cX6_lessen 245 = .ok (.iastore, 1) := by decide +kernel
theorem dX6_lessen_246 : decode cX6_lessen 246 = .ok (.iinc 6 1, 3) := by decide +kernel
theorem dX6_lessen_249 : decode cX6_lessen 249 = .ok (.goto (-34), 3) := by decide +kernel
theorem dX6_lessen_252 : decode cX6_lessen 252 = .ok (.return_, 1) := by decide +kernel
theorem dX6_lessen_253 : decode cX6_lessen 253 = .ok (.iinc 4 1, 3) := by decide +kernel
theorem dX6_lessen_256 : decode cX6_lessen 256 = .ok (.goto (-247), 3) := by decide +kernel
theorem dX6_lessen_259 : decode cX6_lessen 259 = .ok (.return_, 1) := by decide +kernel
theorem dX6_send_0 : decode cX6_send 0 = .ok (.aload_n 0, 1) := by decide +kernel
theorem dX6_send_1 : decode cX6_send 1 = .ok (.iconst 0, 1) := by decide +kernel
theorem dX6_send_2 : decode cX6_send 2 = .ok (.putfield 101, 3) := by decide +kernel
theorem dX6_send_5 : decode cX6_send 5 = .ok (.aload_n 0, 1) := by decide +kernel
theorem dX6_send_6 : decode cX6_send 6 = .ok (.getfield 250, 3) := by decide +kernel
theorem dX6_send_9 : decode cX6_send 9 = .ok (.ifCond .le 5, 3) := by decide +kernel
theorem dX6_send_12 : decode cX6_send 12 = .ok (.iconst (-1), 1) := by decide +kernel
theorem dX6_send_13 : decode cX6_send 13 = .ok (.ireturn, 1) := by decide +kernel
theorem dX6_send_14 : decode cX6_send 14 = .ok (.aload_n 0, 1) := by decide +kernel
theorem dX6_send_15 : decode cX6_send 15 = .ok (.invokevirtual 253, 3) := by decide +kernel
theorem dX6_send_18 : decode cX6_send 18 = .ok (.aload_n 0, 1) := by decide +kernel
theorem dX6_send_19 : decode cX6_send 19 = .ok (.invokevirtual 256, 3) := by decide +kernel
theorem dX6_send_22 : decode cX6_send 22 = .ok (.ireturn, 1) := by decide +kernel
theorem dX6_filled_0 : decode cX6_filled 0 = .ok (.iconst 0, 1) := by decide +kernel
theorem dX6_filled_1 : decode cX6_filled 1 = .ok (.istore_n 1, 1) := by decide +kernel
theorem dX6_filled_2 : decode cX6_filled 2 = .ok (.iconst 0, 1) := by decide +kernel
theorem dX6_filled_3 : decode cX6_filled 3 = .ok (.istore_n 2, 1) := by decide +kernel
theorem dX6_filled_4 : decode cX6_filled 4 = .ok (.iload_n 2, 1) := by decide +kernel
theorem dX6_filled_5 : decode cX6_filled 5 = .ok (.iconst 2, 1) := by decide +kernel
theorem dX6_filled_6 : decode cX6_filled 6 = .ok (.aload_n 0, 1) := by decide +kernel
theorem dX6_filled_7 : decode cX6_filled 7 = .ok (.getfield 184, 3) := by decide +kernel
theorem dX6_filled_10 : decode cX6_filled 10 = .ok (.imul, 1) := by decide +kernel
theorem dX6_filled_11 : decode cX6_filled 11 = .ok (.if_icmp .ge 22, 3) := by decide +kernel
theorem dX6_filled_14 : decode cX6_filled 14 = .ok (.aload_n 0, 1) := by decide +kernel
theorem dX6_filled_15 : decode cX6_filled 15 = .ok (.getfield 71, 3) := by decide +kernel
theorem dX6_filled_18 : decode cX6_filled 18 = .ok (.iload_n 2, 1) := by decide +kernel
theorem dX6_filled_19 : decode cX6_filled 19 = .ok (.iaload, 1) := by decide +kernel
theorem dX6_filled_20 : decode cX6_filled 20 = .ok (.iconst (-1), 1) := by decide +kernel
theorem dX6_filled_21 : decode cX6_filled 21 = .ok (.if_icmp .eq 6, 3) := by decide +kernel
theorem dX6_filled_24 : decode cX6_filled 24 = .ok (.iinc 1 1, 3) := by decide +kernel
theorem dX6_filled_27 : decode cX6_filled 27 = .ok (.iinc 2 1, 3) := by decide +kernel
theorem dX6_filled_30 : decode cX6_filled 30 = .ok (.goto (-26), 3) := by decide +kernel
theorem dX6_filled_33 : decode cX6_filled 33 = .ok (.iload_n 1, 1) := by decide +kernel
theorem dX6_filled_34 : decode cX6_filled 34 = .ok (.ireturn, 1) := by decide +kernel
theorem dX6_off_0 : decode cX6_off 0 = .ok (.aload_n 0, 1) := by decide +kernel
theorem dX6_off_1 : decode cX6_off 1 = .ok (.iconst 0, 1) := by decide +kernel
theorem dX6_off_2 : decode cX6_off 2 = .ok (.putfield 101, 3) := by decide +kernel
theorem dX6_off_5 : decode cX6_off 5 = .ok (.aload_n 0, 1) := by decide +kernel
theorem dX6_off_6 : decode cX6_off 6 = .ok (.iload_n 1, 1) := by decide +kernel
theorem dX6_off_7 : decode cX6_off 7 = .ok (.invokevirtual 191, 3) := by decide +kernel
theorem dX6_off_10 : decode cX6_off 10 = .ok (.ifCond .eq 11, 3) := by decide +kernel
theorem dX6_off_13 : decode cX6_off 13 = .ok (.aload_n 0, 1) := by decide +kernel
theorem dX6_off_14 : decode cX6_off 14 = .ok (.iload_n 1, 1) := by decide +kernel
theorem dX6_off_15 : decode cX6_off 15 = .ok (.invokevirtual 197, 3) := by decide +kernel
theorem dX6_off_18 : decode cX6_off 18 = .ok (.goto 4, 3) := by decide +kernel
theorem dX6_off_21 : decode cX6_off 21 = .ok (.iconst (-1), 1) := by decide +kernel
theorem dX6_off_22 : decode cX6_off 22 = .ok (.istore_n 2, 1) := by decide +kernel
theorem dX6_off_23 : decode cX6_off 23 = .ok (.iload_n 2, 1) := by decide +kernel
theorem dX6_off_24 : decode cX6_off 24 = .ok (.iconst (-1), 1) := by decide +kernel
theorem dX6_off_25 : decode cX6_off 25 = .ok (.if_icmp .eq 10, 3) := by decide +kernel
theorem dX6_off_28 : decode cX6_off 28 = .ok (.aload_n 0, 1) := by decide +kernel
theorem dX6_off_29 : decode cX6_off 29 = .ok (.getfield 250, 3) := by decide +kernel
theorem dX6_off_32 : decode cX6_off 32 = .ok (.ifCond .le 5, 3) := by decide +kernel
theorem dX6_off_35 : decode cX6_off 35 = .ok (.iconst (-1), 1) := by decide +kernel
theorem dX6_off_36 : decode cX6_off 36 = .ok (.ireturn, 1) := by decide +kernel
theorem dX6_off_37 : decode cX6_off 37 = .ok (.aload_n 0, 1) := by decide +kernel
theorem dX6_off_38 : decode cX6_off 38 = .ok (.getfield 55, 3) := by decide +kernel
theorem dX6_off_41 : decode cX6_off 41 = .ok (.bipush 100, 2) := by decide +kernel
theorem dX6_off_43 : decode cX6_off 43 = .ok (.iload_n 1, 1) := by decide +kernel
theorem dX6_off_44 : decode cX6_off 44 = .ok (.imul, 1) := by decide +kernel
theorem dX6_off_45 : decode cX6_off 45 = .ok (.aload_n 0, 1) := by decide +kernel
theorem dX6_off_46 : decode cX6_off 46 = .ok (.getfield 194, 3) := by decide +kernel
theorem dX6_off_49 : decode cX6_off 49 = .ok (.iadd, 1) := by decide +kernel
theorem dX6_off_50 : decode cX6_off 50 = .ok (.iconst 1, 1) := by decide +kernel
theorem dX6_off_51 : decode cX6_off 51 = .ok (.bastore, 1) := by decide +kernel
theorem dX6_off_52 : decode cX6_off 52 = .ok (.aload_n 0, 1) := by decide +kernel
theorem dX6_off_53 : decode cX6_off 53 = .ok (.getfield 71, 3) := by decide +kernel
theorem dX6_off_56 : decode cX6_off 56 = .ok (.iload_n 2, 1) := by decide +kernel
theorem dX6_off_57 : decode cX6_off 57 = .ok (.iconst (-1), 1) := by decide +kernel
theorem dX6_off_58 : decode cX6_off 58 = .ok (.iastore, 1) := by decide +kernel
theorem dX6_off_59 : decode cX6_off 59 = .ok (.aload_n 0, 1) := by decide +kernel
theorem dX6_off_60 : decode cX6_off 60 = .ok (.iload_n 2, 1) := by decide +kernel
theorem dX6_off_61 : decode cX6_off 61 = .ok (.invokevirtual 259, 3) := by decide +kernel
theorem dX6_off_64 : decode cX6_off 64 = .ok (.istore_n 3, 1) := by decide +kernel
theorem dX6_off_65 : decode cX6_off 65 = .ok (.iload_n 3, 1) := by decide +kernel
theorem dX6_off_66 : decode cX6_off 66 = .ok (.iconst (-1), 1) := by decide +kernel
theorem dX6_off_67 : decode cX6_off 67 = .ok (.if_icmp .eq 12, 3) := by decide +kernel
theorem dX6_off_70 : decode cX6_off 70 = .ok (.aload_n 0, 1) := by decide +kernel
theorem dX6_off_71 : decode cX6_off 71 = .ok (.getfield 71, 3) := by decide +kernel
theorem dX6_off_74 : decode cX6_off 74 = .ok (.iload_n 2, 1) := by decide +kernel
theorem dX6_off_75 : decode cX6_off 75 = .ok (.iload_n 3, 1) := by decide +kernel
theorem dX6_off_76 : decode cX6_off 76 = .ok (.iastore, 1) := by decide +kernel
theorem dX6_off_77 : decode cX6_off 77 = .ok (.iconst 1, 1) := by decide +kernel
theorem dX6_off_78 : decode cX6_off 78 = .ok (.ireturn, 1) := by decide +kernel
theorem dX6_off_79 : decode cX6_off 79 = .ok (.ldc 218, 2) := by decide +kernel
theorem dX6_off_81 : decode cX6_off 81 = .ok (.istore 4, 2) := by decide +kernel
theorem dX6_off_83 : decode cX6_off 83 = .ok (.iconst (-1), 1) := by decide +kernel
theorem dX6_off_84 : decode cX6_off 84 = .ok (.istore 5, 2) := by decide +kernel
theorem dX6_off_86 : decode cX6_off 86 = .ok (.iconst 0, 1) := by decide +kernel
theorem dX6_off_87 : decode cX6_off 87 = .ok (.istore 6, 2) := by decide +kernel
theorem dX6_off_89 : decode cX6_off 89 = .ok (.iload 6, 2) := by decide +kernel
theorem dX6_off_91 : decode cX6_off 91 = .ok (.iconst 2, 1) := by decide +kernel
theorem dX6_off_92 : decode cX6_off 92 = .ok (.aload_n 0, 1) := by decide +kernel
theorem dX6_off_93 : decode cX6_off 93 = .ok (.getfield 184, 3) := by decide +kernel
theorem dX6_off_96 : decode cX6_off 96 = .ok (.imul, 1) := by decide +kernel
theorem dX6_off_97 : decode cX6_off 97 = .ok (.if_icmp .ge 99, 3) := by decide +kernel
theorem dX6_off_100 : decode cX6_off 100 = .ok (.aload_n 0, 1) := by decide +kernel
theorem dX6_off_101 : decode cX6_off 101 = .ok (.getfield 71, 3) := by decide +kernel
theorem dX6_off_104 : decode cX6_off 104 = .ok (.iload 6, 2) := by decide +kernel
theorem dX6_off_106 : decode cX6_off 106 = .ok (.iaload, 1) := by decide +kernel
theorem dX6_off_107 : decode cX6_off 107 = .ok (.istore 7, 2) := by decide +kernel
theorem dX6_off_109 : decode cX6_off 109 = .ok (.iload 7, 2) := by decide +kernel
theorem dX6_off_111 : decode cX6_off 111 = .ok (.iconst (-1), 1) := by decide +kernel
theorem dX6_off_112 : decode cX6_off 112 = .ok (.if_icmp .eq 78, 3) := by decide +kernel
theorem dX6_off_115 : decode cX6_off 115 = .ok (.aload_n 0, 1) := by decide +kernel
theorem dX6_off_116 : decode cX6_off 116 = .ok (.iload 7, 2) := by decide +kernel
theorem dX6_off_118 : decode cX6_off 118 = .ok (.iload_n 2, 1) := by decide +kernel
theorem dX6_off_119 : decode cX6_off 119 = .ok (.invokevirtual 210, 3) := by decide +kernel
theorem dX6_off_122 : decode cX6_off 122 = .ok (.ifCond .ne 6, 3) := by decide +kernel
theorem dX6_off_125 : decode cX6_off 125 = .ok (.goto 65, 3) := by decide +kernel
theorem dX6_off_128 : decode cX6_off 128 = .ok (.aload_n 0, 1) := by decide +kernel
theorem dX6_off_129 : decode cX6_off 129 = .ok (.iload 6, 2) := by decide +kernel
theorem dX6_off_131 : decode cX6_off 131 = .ok (.invokevirtual 259, 3) := by decide +kernel
theorem dX6_off_134 : decode cX6_off 134 = .ok (.istore 8, 2) := by decide +kernel
theorem dX6_off_136 : decode cX6_off 136 = .ok (.iload 8, 2) := by decide +kernel
theorem dX6_off_138 : decode cX6_off 138 = .ok (.iconst (-1), 1) := by decide +kernel
theorem dX6_off_139 : decode cX6_off 139 = .ok (.if_icmp .ne 6, 3) := by decide +kernel
theorem dX6_off_142 : decode cX6_off 142 = .ok (.goto 48, 3) := by decide +kernel
theorem dX6_off_145 : decode cX6_off 145 = .ok (.aload_n 0, 1) := by decide +kernel
theorem dX6_off_146 : decode cX6_off 146 = .ok (.iload 7, 2) := by decide +kernel
theorem dX6_off_148 : decode cX6_off 148 = .ok (.iload_n 2, 1) := by decide +kernel
theorem dX6_off_149 : decode cX6_off 149 = .ok (.invokevirtual 214, 3) := by decide +kernel
theorem dX6_off_152 : decode cX6_off 152 = .ok (.aload_n 0, 1) := by decide +kernel
theorem dX6_off_153 : decode cX6_off 153 = .ok (.iload 8, 2) := by decide +kernel
theorem dX6_off_155 : decode cX6_off 155 = .ok (.iload 6, 2) := by decide +kernel
theorem dX6_off_157 : decode cX6_off 157 = .ok (.invokevirtual 214, 3) := by decide +kernel
theorem dX6_off_160 : decode cX6_off 160 = .ok (.iadd, 1) := by decide +kernel
theorem dX6_off_161 : decode cX6_off 161 = .ok (.aload_n 0, 1) := by decide +kernel
theorem dX6_off_162 : decode cX6_off 162 = .ok (.iload 7, 2) := by decide +kernel
theorem dX6_off_164 : decode cX6_off 164 = .ok (.iload 6, 2) := by decide +kernel
theorem dX6_off_166 : decode cX6_off 166 = .ok (.invokevirtual 214, 3) := by decide +kernel
theorem dX6_off_169 : decode cX6_off 169 = .ok (.isub, 1) := by decide +kernel
theorem dX6_off_170 : decode cX6_off 170 = .ok (.istore 9, 2) := by decide +kernel
theorem dX6_off_172 : decode cX6_off 172 = .ok (.iload 9, 2) := by decide +kernel
theorem dX6_off_174 : decode cX6_off 174 = .ok (.iload 4, 2) := by decide +kernel
theorem dX6_off_176 : decode cX6_off 176 = .ok (.if_icmp .lt 6, 3) := by decide +kernel
theorem dX6_off_179 : decode cX6_off 179 = .ok (.goto 11, 3) := by decide +kernel
theorem dX6_off_182 : decode cX6_off 182 = .ok (.iload 9, 2) := by decide +kernel
theorem dX6_off_184 : decode cX6_off 184 = .ok (.istore 4, 2) := by decide +kernel
theorem dX6_off_186 : decode cX6_off 186 = .ok (.iload 6, 2) := by decide +kernel
theorem dX6_off_188 : decode cX6_off 188 = .ok (.istore 5, 2) := by decide +kernel
theorem dX6_off_190 : decode cX6_off 190 = .ok (.iinc 6 1, 3) := by decide +kernel
theorem dX6_off_193 : decode cX6_off 193 = .ok (.goto (-104), 3) := by decide +kernel
theorem dX6_off_196 : decode cX6_off 196 = .ok (.iload 5, 2) := by decide +kernel
theorem dX6_off_198 : decode cX6_off 198 = .ok (.iconst (-1), 1) := by decide +kernel
theorem dX6_off_199 : decode cX6_off 199 = .ok (.if_icmp .ne 5, 3) := by decide +kernel
theorem dX6_off_202 : decode cX6_off 202 = .ok (.iconst 0, 1) := by decide +kernel
theorem dX6_off_203 : decode cX6_off 203 = .ok (.ireturn, 1) := by decide +kernel
theorem dX6_off_204 : decode cX6_off 204 = .ok (.aload_n 0, 1) := by decide +kernel
theorem dX6_off_205 : decode cX6_off 205 = .ok (.iload 5, 2) := by decide +kernel
theorem dX6_off_207 : decode cX6_off 207 = .ok (.invokevirtual 259, 3) := by decide +kernel
theorem dX6_off_210 : decode cX6_off 210 = .ok (.istore 6, 2) := by decide +kernel
theorem dX6_off_212 : decode cX6_off 212 = .ok (.aload_n 0, 1) := by decide +kernel
theorem dX6_off_213 : decode cX6_off 213 = .ok (.getfield 71, 3) := by decide +kernel
theorem dX6_off_216 : decode cX6_off 216 = .ok (.iload_n 2, 1) := by decide +kernel
theorem dX6_off_217 : decode cX6_off 217 = .ok (.aload_n 0, 1) := by decide +kernel
theorem dX6_off_218 : decode cX6_off 218 = .ok (.getfield 71, 3) := by decide +kernel
theorem dX6_off_221 : decode cX6_off 221 = .ok (.iload 5, 2) := by decide +kernel
theorem dX6_off_223 : decode cX6_off 223 = .ok (.iaload, 1) := by decide +kernel
theorem dX6_off_224 : decode cX6_off 224 = .ok (.iastore, 1) := by decide +kernel
theorem dX6_off_225 : decode cX6_off 225 = .ok (.aload_n 0, 1) := by decide +kernel
theorem dX6_off_226 : decode cX6_off 226 = .ok (.getfield 71, 3) := by decide +kernel
theorem dX6_off_229 : decode cX6_off 229 = .ok (.iload 5, 2) := by decide +kernel
theorem dX6_off_231 : decode cX6_off 231 = .ok (.iload 6, 2) := by decide +kernel
theorem dX6_off_233 : decode cX6_off 233 = .ok (.iastore, 1) := by decide +kernel
theorem dX6_off_234 : decode cX6_off 234 = .ok (.iconst 2, 1) := by decide +kernel
theorem dX6_off_235 : decode cX6_off 235 = .ok (.ireturn, 1) := by decide +kernel
theorem dX6_spare_0 : decode cX6_spare 0 = .ok (.iconst (-1), 1) := by decide +kernel
theorem dX6_spare_1 : decode cX6_spare 1 = .ok (.istore_n 2, 1) := by decide +kernel
theorem dX6_spare_2 : decode cX6_spare 2 = .ok (.iconst 0, 1) := by decide +kernel
theorem dX6_spare_3 : decode cX6_spare 3 = .ok (.istore_n 3, 1) := by decide +kernel
theorem dX6_spare_4 : decode cX6_spare 4 = .ok (.iload_n 3, 1) := by decide +kernel
theorem dX6_spare_5 : decode cX6_spare 5 = .ok (.aload_n 0, 1) := by decide +kernel
theorem dX6_spare_6 : decode cX6_spare 6 = .ok (.getfield 181, 3) := by decide +kernel
theorem dX6_spare_9 : decode cX6_spare 9 = .ok (.if_icmp .ge 49, 3) := by decide +kernel
theorem dX6_spare_12 : decode cX6_spare 12 = .ok (.aload_n 0, 1) := by decide +kernel
theorem dX6_spare_13 : decode cX6_spare 13 = .ok (.iload_n 3, 1) := by decide +kernel
theorem dX6_spare_14 : decode cX6_spare 14 = .ok (.invokevirtual 197, 3) := by decide +kernel
theorem dX6_spare_17 : decode cX6_spare 17 = .ok (.iconst (-1), 1) := by decide +kernel
theorem dX6_spare_18 : decode cX6_spare 18 = .ok (.if_icmp .ne 34, 3) := by decide +kernel
theorem dX6_spare_21 : decode cX6_spare 21 = .ok (.aload_n 0, 1) := by decide +kernel
theorem dX6_spare_22 : decode cX6_spare 22 = .ok (.iload_n 3, 1) := by decide +kernel
theorem dX6_spare_23 : decode cX6_spare 23 = .ok (.iload_n 1, 1) := by decide +kernel
theorem dX6_spare_24 : decode cX6_spare 24 = .ok (.invokevirtual 210, 3) := by decide +kernel
theorem dX6_spare_27 : decode cX6_spare 27 = .ok (.ifCond .eq 25, 3) := by decide +kernel
theorem dX6_spare_30 : decode cX6_spare 30 = .ok (.iload_n 2, 1) := by decide +kernel
theorem dX6_spare_31 : decode cX6_spare 31 = .ok (.iconst (-1), 1) := by decide +kernel
theorem dX6_spare_32 : decode cX6_spare 32 = .ok (.if_icmp .eq 18, 3) := by decide +kernel
theorem dX6_spare_35 : decode cX6_spare 35 = .ok (.aload_n 0, 1) := by decide +kernel
theorem dX6_spare_36 : decode cX6_spare 36 = .ok (.iload_n 3, 1) := by decide +kernel
theorem dX6_spare_37 : decode cX6_spare 37 = .ok (.iload_n 1, 1) := by decide +kernel
theorem dX6_spare_38 : decode cX6_spare 38 = .ok (.invokevirtual 214, 3) := by decide +kernel
theorem dX6_spare_41 : decode cX6_spare 41 = .ok (.aload_n 0, 1) := by decide +kernel
theorem dX6_spare_42 : decode cX6_spare 42 = .ok (.iload_n 2, 1) := by decide +kernel
theorem dX6_spare_43 : decode cX6_spare 43 = .ok (.iload_n 1, 1) := by decide +kernel
theorem dX6_spare_44 : decode cX6_spare 44 = .ok (.invokevirtual 214, 3) := by decide +kernel
theorem dX6_spare_47 : decode cX6_spare 47 = .ok (.if_icmp .ge 5, 3) := by decide +kernel
theorem dX6_spare_50 : decode cX6_spare 50 = .ok (.iload_n 3, 1) := by decide +kernel
theorem dX6_spare_51 : decode cX6_spare 51 = .ok (.istore_n 2, 1) := by decide +kernel
theorem dX6_spare_52 : decode cX6_spare 52 = .ok (.iinc 3 1, 3) := by decide +kernel
theorem dX6_spare_55 : decode cX6_spare 55 = .ok (.goto (-51), 3) := by decide +kernel
theorem dX6_spare_58 : decode cX6_spare 58 = .ok (.iload_n 2, 1) := by decide +kernel
theorem dX6_spare_59 : decode cX6_spare 59 = .ok (.ireturn, 1) := by decide +kernel
theorem dX6_seat_0 : decode cX6_seat 0 = .ok (.aload_n 0, 1) := by decide +kernel
theorem dX6_seat_1 : decode cX6_seat 1 = .ok (.iconst 0, 1) := by decide +kernel
theorem dX6_seat_2 : decode cX6_seat 2 = .ok (.putfield 101, 3) := by decide +kernel
theorem dX6_seat_5 : decode cX6_seat 5 = .ok (.aload_n 0, 1) := by decide +kernel
theorem dX6_seat_6 : decode cX6_seat 6 = .ok (.iload_n 1, 1) := by decide +kernel
theorem dX6_seat_7 : decode cX6_seat 7 = .ok (.invokevirtual 207, 3) := by decide +kernel
theorem dX6_seat_10 : decode cX6_seat 10 = .ok (.ifCond .eq 12, 3) := by decide +kernel
theorem dX6_seat_13 : decode cX6_seat 13 = .ok (.aload_n 0, 1) := by decide +kernel
theorem dX6_seat_14 : decode cX6_seat 14 = .ok (.getfield 71, 3) := by decide +kernel
theorem dX6_seat_17 : decode cX6_seat 17 = .ok (.iload_n 1, 1) := by decide +kernel
theorem dX6_seat_18 : decode cX6_seat 18 = .ok (.iaload, 1) := by decide +kernel
theorem dX6_seat_19 : decode cX6_seat 19 = .ok (.goto 4, 3) := by decide +kernel
theorem dX6_seat_22 : decode cX6_seat 22 = .ok (.iconst (-1), 1) := by decide +kernel
theorem dX6_seat_23 : decode cX6_seat 23 = .ok (.ireturn, 1) := by decide +kernel
theorem dX6_mark_0 : decode cX6_mark 0 = .ok (.aload_n 0, 1) := by decide +kernel
theorem dX6_mark_1 : decode cX6_mark 1 = .ok (.iconst 0, 1) := by decide +kernel
theorem dX6_mark_2 : decode cX6_mark 2 = .ok (.putfield 101, 3) := by decide +kernel
theorem dX6_mark_5 : decode cX6_mark 5 = .ok (.aload_n 0, 1) := by decide +kernel
theorem dX6_mark_6 : decode cX6_mark 6 = .ok (.iload_n 1, 1) := by decide +kernel
theorem dX6_mark_7 : decode cX6_mark 7 = .ok (.invokevirtual 207, 3) := by decide +kernel
theorem dX6_mark_10 : decode cX6_mark 10 = .ok (.ifCond .eq 46, 3) := by decide +kernel
theorem dX6_mark_13 : decode cX6_mark 13 = .ok (.aload_n 0, 1) := by decide +kernel
theorem dX6_mark_14 : decode cX6_mark 14 = .ok (.getfield 71, 3) := by decide +kernel
theorem dX6_mark_17 : decode cX6_mark 17 = .ok (.iload_n 1, 1) := by decide +kernel
theorem dX6_mark_18 : decode cX6_mark 18 = .ok (.iaload, 1) := by decide +kernel
theorem dX6_mark_19 : decode cX6_mark 19 = .ok (.iconst (-1), 1) := by decide +kernel
theorem dX6_mark_20 : decode cX6_mark 20 = .ok (.if_icmp .eq 36, 3) := by decide +kernel
theorem dX6_mark_23 : decode cX6_mark 23 = .ok (.iload_n 2, 1) := by decide +kernel
theorem dX6_mark_24 : decode cX6_mark 24 = .ok (.iconst 0, 1) := by decide +kernel
theorem dX6_mark_25 : decode cX6_mark 25 = .ok (.iconst 1, 1) := by decide +kernel
theorem dX6_mark_26 : decode cX6_mark 26 = .ok (.invokestatic 187, 3) := by decide +kernel
theorem dX6_mark_29 : decode cX6_mark 29 = .ok (.ifCond .eq 27, 3) := by decide +kernel
theorem dX6_mark_32 : decode cX6_mark 32 = .ok (.iload_n 3, 1) := by decide +kernel
theorem dX6_mark_33 : decode cX6_mark 33 = .ok (.iconst 0, 1) := by decide +kernel
theorem dX6_mark_34 : decode cX6_mark 34 = .ok (.bipush 100, 2) := by decide +kernel
theorem dX6_mark_36 : decode cX6_mark 36 = .ok (.invokestatic 187, 3) := by decide +kernel
theorem dX6_mark_39 : decode cX6_mark 39 = .ok (.ifCond .eq 17, 3) := by decide +kernel
theorem dX6_mark_42 : decode cX6_mark 42 = .ok (.aload_n 0, 1) := by decide +kernel
theorem dX6_mark_43 : decode cX6_mark 43 = .ok (.getfield 74, 3) := by decide +kernel
theorem dX6_mark_46 : decode cX6_mark 46 = .ok (.iload_n 1, 1) := by decide +kernel
theorem dX6_mark_47 : decode cX6_mark 47 = .ok (.iaload, 1) := by decide +kernel
theorem dX6_mark_48 : decode cX6_mark 48 = .ok (.iload_n 2, 1) := by decide +kernel
theorem dX6_mark_49 : decode cX6_mark 49 = .ok (.ishr, 1) := by decide +kernel
theorem dX6_mark_50 : decode cX6_mark 50 = .ok (.iconst 1, 1) := by decide +kernel
theorem dX6_mark_51 : decode cX6_mark 51 = .ok (.iand, 1) := by decide +kernel
theorem dX6_mark_52 : decode cX6_mark 52 = .ok (.iconst 1, 1) := by decide +kernel
theorem dX6_mark_53 : decode cX6_mark 53 = .ok (.if_icmp .ne 5, 3) := by decide +kernel
theorem dX6_mark_56 : decode cX6_mark 56 = .ok (.iconst 0, 1) := by decide +kernel
theorem dX6_mark_57 : decode cX6_mark 57 = .ok (.ireturn, 1) := by decide +kernel
theorem dX6_mark_58 : decode cX6_mark 58 = .ok (.aload_n 0, 1) := by decide +kernel
theorem dX6_mark_59 : decode cX6_mark 59 = .ok (.getfield 71, 3) := by decide +kernel
theorem dX6_mark_62 : decode cX6_mark 62 = .ok (.iload_n 1, 1) := by decide +kernel
theorem dX6_mark_63 : decode cX6_mark 63 = .ok (.iaload, 1) := by decide +kernel
theorem dX6_mark_64 : decode cX6_mark 64 = .ok (.istore 5, 2) := by decide +kernel
theorem dX6_mark_66 : decode cX6_mark 66 = .ok (.aload_n 0, 1) := by decide +kernel
theorem dX6_mark_67 : decode cX6_mark 67 = .ok (.getfield 13, 3) := by decide +kernel
theorem dX6_mark_70 : decode cX6_mark 70 = .ok (.iload 4, 2) := by decide +kernel
theorem dX6_mark_72 : decode cX6_mark 72 = .ok (.ifCond .eq 7, 3) := by decide +kernel
theorem dX6_mark_75 : decode cX6_mark 75 = .ok (.iconst 4, 1) := by decide +kernel
theorem dX6_mark_76 : decode cX6_mark 76 = .ok (.goto 4, 3) := by decide +kernel
theorem dX6_mark_79 : decode cX6_mark 79 = .ok (.iconst 5, 1) := by decide +kernel
theorem dX6_mark_80 : decode cX6_mark 80 = .ok (.iaload, 1) := by decide +kernel
theorem dX6_mark_81 : decode cX6_mark 81 = .ok (.istore 6, 2) := by decide +kernel
theorem dX6_mark_83 : decode cX6_mark 83 = .ok (.aload_n 0, 1) := by decide +kernel
theorem dX6_mark_84 : decode cX6_mark 84 = .ok (.getfield 74, 3) := by decide +kernel
theorem dX6_mark_87 : decode cX6_mark 87 = .ok (.iload_n 1, 1) := by decide +kernel
theorem dX6_mark_88 : decode cX6_mark 88 = .ok (.dup2, 1) := by decide +kernel
theorem dX6_mark_89 : decode cX6_mark 89 = .ok (.iaload, 1) := by decide +kernel
theorem dX6_mark_90 : decode cX6_mark 90 = .ok (.iconst 1, 1) := by decide +kernel
theorem dX6_mark_91 : decode cX6_mark 91 = .ok (.iload_n 2, 1) := by decide +kernel
theorem dX6_mark_92 : decode cX6_mark 92 = .ok (.ishl, 1) := by decide +kernel
theorem dX6_mark_93 : decode cX6_mark 93 = .ok (.ior, 1) := by decide +kernel
theorem dX6_mark_94 : decode cX6_mark 94 = .ok (.iastore, 1) := by decide +kernel
theorem dX6_mark_95 : decode cX6_mark 95 = .ok (.aload_n 0, 1) := by decide +kernel
theorem dX6_mark_96 : decode cX6_mark 96 = .ok (.getfield 40, 3) := by decide +kernel
theorem dX6_mark_99 : decode cX6_mark 99 = .ok (.iload 5, 2) := by decide +kernel
theorem dX6_mark_101 : decode cX6_mark 101 = .ok (.dup2, 1) := by decide +kernel
theorem dX6_mark_102 : decode cX6_mark 102 = .ok (.iaload, 1) := by decide +kernel
theorem dX6_mark_103 : decode cX6_mark 103 = .ok (.iconst 1, 1) := by decide +kernel
theorem dX6_mark_104 : decode cX6_mark 104 = .ok (.iadd, 1) := by decide +kernel
theorem dX6_mark_105 : decode cX6_mark 105 = .ok (.iastore, 1) := by decide +kernel
theorem dX6_mark_106 : decode cX6_mark 106 = .ok (.aload_n 0, 1) := by decide +kernel
theorem dX6_mark_107 : decode cX6_mark 107 = .ok (.getfield 43, 3) := by decide +kernel
theorem dX6_mark_110 : decode cX6_mark 110 = .ok (.iload 5, 2) := by decide +kernel
theorem dX6_mark_112 : decode cX6_mark 112 = .ok (.dup2, 1) := by decide +kernel
theorem dX6_mark_113 : decode cX6_mark 113 = .ok (.iaload, 1) := by decide +kernel
theorem dX6_mark_114 : decode cX6_mark 114 = .ok (.iload 6, 2) := by decide +kernel
theorem dX6_mark_116 : decode cX6_mark 116 = .ok (.iadd, 1) := by decide +kernel
theorem dX6_mark_117 : decode cX6_mark 117 = .ok (.iastore, 1) := by decide +kernel
theorem dX6_mark_118 : decode cX6_mark 118 = .ok (.aload_n 0, 1) := by decide +kernel
theorem dX6_mark_119 : decode cX6_mark 119 = .ok (.getfield 46, 3) := by decide +kernel
theorem dX6_mark_122 : decode cX6_mark 122 = .ok (.iload 5, 2) := by decide +kernel
theorem dX6_mark_124 : decode cX6_mark 124 = .ok (.dup2, 1) := by decide +kernel
theorem dX6_mark_125 : decode cX6_mark 125 = .ok (.iaload, 1) := by decide +kernel
theorem dX6_mark_126 : decode cX6_mark 126 = .ok (.iload 6, 2) := by decide +kernel
theorem dX6_mark_128 : decode cX6_mark 128 = .ok (.iload_n 3, 1) := by decide +kernel
theorem dX6_mark_129 : decode cX6_mark 129 = .ok (.imul, 1) := by decide +kernel
theorem dX6_mark_130 : decode cX6_mark 130 = .ok (.iadd, 1) := by decide +kernel
theorem dX6_mark_131 : decode cX6_mark 131 = .ok (.iastore, 1) := by decide +kernel
theorem dX6_mark_132 : decode cX6_mark 132 = .ok (.aload_n 0, 1) := by decide +kernel
theorem dX6_mark_133 : decode cX6_mark 133 = .ok (.dup, 1) := by decide +kernel
theorem dX6_mark_134 : decode cX6_mark 134 = .ok (.getfield 250, 3) := by decide +kernel
theorem dX6_mark_137 : decode cX6_mark 137 = .ok (.iconst 1, 1) := by decide +kernel
theorem dX6_mark_138 : decode cX6_mark 138 = .ok (.iadd, 1) := by decide +kernel
theorem dX6_mark_139 : decode cX6_mark 139 = .ok (.putfield 250, 3) := by decide +kernel
theorem dX6_mark_142 : decode cX6_mark 142 = .ok (.iconst 1, 1) := by decide +kernel
theorem dX6_mark_143 : decode cX6_mark 143 = .ok (.ireturn, 1) := by decide +kernel
theorem dX6_next_0 : decode cX6_next 0 = .ok (.aload_n 0, 1) := by decide +kernel
theorem dX6_next_1 : decode cX6_next 1 = .ok (.iconst 0, 1) := by decide +kernel
theorem dX6_next_2 : decode cX6_next 2 = .ok (.putfield 101, 3) := by decide +kernel
theorem dX6_next_5 : decode cX6_next 5 = .ok (.aload_n 0, 1) := by decide +kernel
theorem dX6_next_6 : decode cX6_next 6 = .ok (.getfield 194, 3) := by decide +kernel
theorem dX6_next_9 : decode cX6_next 9 = .ok (.bipush 99, 2) := by decide +kernel
theorem dX6_next_11 : decode cX6_next 11 = .ok (.if_icmp .ne 5, 3) := by decide +kernel
theorem dX6_next_14 : decode cX6_next 14 = .ok (.iconst (-1), 1) := by decide +kernel
theorem dX6_next_15 : decode cX6_next 15 = .ok (.ireturn, 1) := by decide +kernel
theorem dX6_next_16 : decode cX6_next 16 = .ok (.iconst 0, 1) := by decide +kernel
theorem dX6_next_17 : decode cX6_next 17 = .ok (.istore_n 1, 1) := by decide +kernel
theorem dX6_next_18 : decode cX6_next 18 = .ok (.iload_n 1, 1) := by decide +kernel
theorem dX6_next_19 : decode cX6_next 19 = .ok (.iconst 2, 1) := by decide +kernel
theorem dX6_next_20 : decode cX6_next 20 = .ok (.aload_n 0, 1) := by decide +kernel
theorem dX6_next_21 : decode cX6_next 21 = .ok (.getfield 184, 3) := by decide +kernel
theorem dX6_next_24 : decode cX6_next 24 = .ok (.imul, 1) := by decide +kernel
theorem dX6_next_25 : decode cX6_next 25 = .ok (.if_icmp .ge 64, 3) := by decide +kernel
theorem dX6_next_28 : decode cX6_next 28 = .ok (.aload_n 0, 1) := by decide +kernel
theorem dX6_next_29 : decode cX6_next 29 = .ok (.getfield 71, 3) := by decide +kernel
theorem dX6_next_32 : decode cX6_next 32 = .ok (.iload_n 1, 1) := by decide +kernel
theorem dX6_next_33 : decode cX6_next 33 = .ok (.iaload, 1) := by decide +kernel
theorem dX6_next_34 : decode cX6_next 34 = .ok (.iconst (-1), 1) := by decide +kernel
theorem dX6_next_35 : decode cX6_next 35 = .ok (.if_icmp .ne 6, 3) := by decide +kernel
theorem dX6_next_38 : decode cX6_next 38 = .ok (.goto 45, 3) := by decide +kernel
theorem dX6_next_41 : decode cX6_next 41 = .ok (.aload_n 0, 1) := by decide +kernel
theorem dX6_next_42 : decode cX6_next 42 = .ok (.getfield 52, 3) := by decide +kernel
theorem dX6_next_45 : decode cX6_next 45 = .ok (.bipush 100, 2) := by decide +kernel
theorem dX6_next_47 : decode cX6_next 47 = .ok (.aload_n 0, 1) := by decide +kernel
theorem dX6_next_48 : decode cX6_next 48 = .ok (.getfield 71, 3) := by decide +kernel
theorem dX6_next_51 : decode cX6_next 51 = .ok (.iload_n 1, 1) := by decide +kernel
theorem dX6_next_52 : decode cX6_next 52 = .ok (.iaload, 1) := by decide +kernel
theorem dX6_next_53 : decode cX6_next 53 = .ok (.imul, 1) := by decide +kernel
theorem dX6_next_54 : decode cX6_next 54 = .ok (.aload_n 0, 1) := by decide +kernel
theorem dX6_next_55 : decode cX6_next 55 = .ok (.getfield 194, 3) := by decide +kernel
theorem dX6_next_58 : decode cX6_next 58 = .ok (.iadd, 1) := by decide +kernel
theorem dX6_next_59 : decode cX6_next 59 = .ok (.aload_n 0, 1) := by decide +kernel
theorem dX6_next_60 : decode cX6_next 60 = .ok (.getfield 65, 3) := by decide +kernel
theorem dX6_next_63 : decode cX6_next 63 = .ok (.iload_n 1, 1) := by decide +kernel
theorem dX6_next_64 : decode cX6_next 64 = .ok (.iconst 2, 1) := by decide +kernel
theorem dX6_next_65 : decode cX6_next 65 = .ok (.idiv, 1) := by decide +kernel
theorem dX6_next_66 : decode cX6_next 66 = .ok (.iaload, 1) := by decide +kernel
theorem dX6_next_67 : decode cX6_next 67 = .ok (.iastore, 1) := by decide +kernel
theorem dX6_next_68 : decode cX6_next 68 = .ok (.aload_n 0, 1) := by decide +kernel
theorem dX6_next_69 : decode cX6_next 69 = .ok (.getfield 49, 3) := by decide +kernel
theorem dX6_next_72 : decode cX6_next 72 = .ok (.aload_n 0, 1) := by decide +kernel
theorem dX6_next_73 : decode cX6_next 73 = .ok (.getfield 71, 3) := by decide +kernel
theorem dX6_next_76 : decode cX6_next 76 = .ok (.iload_n 1, 1) := by decide +kernel
theorem dX6_next_77 : decode cX6_next 77 = .ok (.iaload, 1) := by decide +kernel
theorem dX6_next_78 : decode cX6_next 78 = .ok (.dup2, 1) := by decide +kernel
theorem dX6_next_79 : decode cX6_next 79 = .ok (.iaload, 1) := by decide +kernel
theorem dX6_next_80 : decode cX6_next 80 = .ok (.iconst 1, 1) := by decide +kernel
theorem dX6_next_81 : decode cX6_next 81 = .ok (.iadd, 1) := by decide +kernel
theorem dX6_next_82 : decode cX6_next 82 = .ok (.iastore, 1) := by decide +kernel
theorem dX6_next_83 : decode cX6_next 83 = .ok (.iinc 1 1, 3) := by decide +kernel
theorem dX6_next_86 : decode cX6_next 86 = .ok (.goto (-68), 3) := by decide +kernel
theorem dX6_next_89 : decode cX6_next 89 = .ok (.iconst 0, 1) := by decide +kernel
theorem dX6_next_90 : decode cX6_next 90 = .ok (.istore_n 1, 1) := by decide +kernel
theorem dX6_next_91 : decode cX6_next 91 = .ok (.iload_n 1, 1) := by decide +kernel
theorem dX6_next_92 : decode cX6_next 92 = .ok (.aload_n 0, 1) := by decide +kernel
theorem dX6_next_93 : decode cX6_next 93 = .ok (.getfield 181, 3) := by decide +kernel
theorem dX6_next_96 : decode cX6_next 96 = .ok (.if_icmp .ge 157, 3) := by decide +kernel
theorem dX6_next_99 : decode cX6_next 99 = .ok (.aload_n 0, 1) := by decide +kernel
theorem dX6_next_100 : decode cX6_next 100 = .ok (.getfield 40, 3) := by decide +kernel
theorem dX6_next_103 : decode cX6_next 103 = .ok (.iload_n 1, 1) := by decide +kernel
theorem dX6_next_104 : decode cX6_next 104 = .ok (.iaload, 1) := by decide +kernel
theorem dX6_next_105 : decode cX6_next 105 = .ok (.aload_n 0, 1) := by decide +kernel
theorem dX6_next_106 : decode cX6_next 106 = .ok (.getfield 13, 3) := by decide +kernel
theorem dX6_next_109 : decode cX6_next 109 = .ok (.bipush 8, 2) := by decide +kernel
theorem dX6_next_111 : decode cX6_next 111 = .ok (.iaload, 1) := by decide +kernel
theorem dX6_next_112 : decode cX6_next 112 = .ok (.if_icmp .lt 135, 3) := by decide +kernel
theorem dX6_next_115 : decode cX6_next 115 = .ok (.aload_n 0, 1) := by decide +kernel
theorem dX6_next_116 : decode cX6_next 116 = .ok (.getfield 43, 3) := by decide +kernel
theorem dX6_next_119 : decode cX6_next 119 = .ok (.iload_n 1, 1) := by decide +kernel
theorem dX6_next_120 : decode cX6_next 120 = .ok (.iaload, 1) := by decide +kernel
theorem dX6_next_121 : decode cX6_next 121 = .ok (.ifCond .ne 6, 3) := by decide +kernel
theorem dX6_next_124 : decode cX6_next 124 = .ok (.goto 123, 3) := by decide +kernel
theorem dX6_next_127 : decode cX6_next 127 = .ok (.aload_n 0, 1) := by decide +kernel
theorem dX6_next_128 : decode cX6_next 128 = .ok (.getfield 34, 3) := by decide +kernel
theorem dX6_next_131 : decode cX6_next 131 = .ok (.iload_n 1, 1) := by decide +kernel
theorem dX6_next_132 : decode cX6_next 132 = .ok (.iaload, 1) := by decide +kernel
theorem dX6_next_133 : decode cX6_next 133 = .ok (.istore_n 2, 1) := by decide +kernel
theorem dX6_next_134 : decode cX6_next 134 = .ok (.aload_n 0, 1) := by decide +kernel
theorem dX6_next_135 : decode cX6_next 135 = .ok (.getfield 46, 3) := by decide +kernel
theorem dX6_next_138 : decode cX6_next 138 = .ok (.iload_n 1, 1) := by decide +kernel
theorem dX6_next_139 : decode cX6_next 139 = .ok (.iaload, 1) := by decide +kernel
theorem dX6_next_140 : decode cX6_next 140 = .ok (.aload_n 0, 1) := by decide +kernel
theorem dX6_next_141 : decode cX6_next 141 = .ok (.getfield 13, 3) := by decide +kernel
theorem dX6_next_144 : decode cX6_next 144 = .ok (.bipush 6, 2) := by decide +kernel
theorem dX6_next_146 : decode cX6_next 146 = .ok (.iaload, 1) := by decide +kernel
theorem dX6_next_147 : decode cX6_next 147 = .ok (.aload_n 0, 1) := by decide +kernel
theorem dX6_next_148 : decode cX6_next 148 = .ok (.getfield 43, 3) := by decide +kernel
theorem dX6_next_151 : decode cX6_next 151 = .ok (.iload_n 1, 1) := by decide +kernel
theorem dX6_next_152 : decode cX6_next 152 = .ok (.iaload, 1) := by decide +kernel
theorem dX6_next_153 : decode cX6_next 153 = .ok (.imul, 1) := by decide +kernel
theorem dX6_next_154 : decode cX6_next 154 = .ok (.if_icmp .lt 21, 3) := by decide +kernel
theorem dX6_next_157 : decode cX6_next 157 = .ok (.iload_n 2, 1) := by decide +kernel
theorem dX6_next_158 : decode cX6_next 158 = .ok (.iconst 1, 1) := by decide +kernel
theorem dX6_next_159 : decode cX6_next 159 = .ok (.if_icmp .le 16, 3) := by decide +kernel
theorem dX6_next_162 : decode cX6_next 162 = .ok (.aload_n 0, 1) := by decide +kernel
theorem dX6_next_163 : decode cX6_next 163 = .ok (.getfield 34, 3) := by decide +kernel
theorem dX6_next_166 : decode cX6_next 166 = .ok (.iload_n 1, 1) := by decide +kernel
theorem dX6_next_167 : decode cX6_next 167 = .ok (.dup2, 1) := by decide +kernel
theorem dX6_next_168 : decode cX6_next 168 = .ok (.iaload, 1) := by decide +kernel
theorem dX6_next_169 : decode cX6_next 169 = .ok (.iconst 1, 1) := by decide +kernel
theorem dX6_next_170 : decode cX6_next 170 = .ok (.isub, 1) := by decide +kernel
theorem dX6_next_171 : decode cX6_next 171 = .ok (.iastore, 1) := by decide +kernel
theorem dX6_next_172 : decode cX6_next 172 = .ok (.goto 41, 3) := by decide +kernel
theorem dX6_next_175 : decode cX6_next 175 = .ok (.aload_n 0, 1) := by decide +kernel
theorem dX6_next_176 : decode cX6_next 176 = .ok (.getfield 46, 3) := by decide +kernel
theorem dX6_next_179 : decode cX6_next 179 = .ok (.iload_n 1, 1) := by decide +kernel
theorem dX6_next_180 : decode cX6_next 180 = .ok (.iaload, 1) := by decide +kernel
theorem dX6_next_181 : decode cX6_next 181 = .ok (.aload_n 0, 1) := by decide +kernel
theorem dX6_next_182 : decode cX6_next 182 = .ok (.getfield 13, 3) := by decide +kernel
theorem dX6_next_185 : decode cX6_next 185 = .ok (.bipush 7, 2) := by decide +kernel
theorem dX6_next_187 : decode cX6_next 187 = .ok (.iaload, 1) := by decide +kernel
theorem dX6_next_188 : decode cX6_next 188 = .ok (.aload_n 0, 1) := by decide +kernel
theorem dX6_next_189 : decode cX6_next 189 = .ok (.getfield 43, 3) := by decide +kernel
theorem dX6_next_192 : decode cX6_next 192 = .ok (.iload_n 1, 1) := by decide +kernel
theorem dX6_next_193 : decode cX6_next 193 = .ok (.iaload, 1) := by decide +kernel
theorem dX6_next_194 : decode cX6_next 194 = .ok (.imul, 1) := by decide +kernel
theorem dX6_next_195 : decode cX6_next 195 = .ok (.if_icmp .gt 18, 3) := by decide +kernel
theorem dX6_next_198 : decode cX6_next 198 = .ok (.iload_n 2, 1) := by decide +kernel
theorem dX6_next_199 : decode cX6_next 199 = .ok (.iconst 4, 1) := by decide +kernel
theorem dX6_next_200 : decode cX6_next 200 = .ok (.if_icmp .ge 13, 3) := by decide +kernel
theorem dX6_next_203 : decode cX6_next 203 = .ok (.aload_n 0, 1) := by decide +kernel
theorem dX6_next_204 : decode cX6_next 204 = .ok (.getfield 34, 3) := by decide +kernel
theorem dX6_next_207 : decode cX6_next 207 = .ok (.iload_n 1, 1) := by decide +kernel
theorem dX6_next_208 : decode cX6_next 208 = .ok (.dup2, 1) := by decide +kernel
theorem dX6_next_209 : decode cX6_next 209 = .ok (.iaload, 1) := by decide +kernel
theorem dX6_next_210 : decode cX6_next 210 = .ok (.iconst 1, 1) := by decide +kernel
theorem dX6_next_211 : decode cX6_next 211 = .ok (.iadd, 1) := by decide +kernel
theorem dX6_next_212 : decode cX6_next 212 = .ok (.iastore, 1) := by decide +kernel
theorem dX6_next_213 : decode cX6_next 213 = .ok (.aload_n 0, 1) := by decide +kernel
theorem dX6_next_214 : decode cX6_next 214 = .ok (.getfield 34, 3) := by decide +kernel
theorem dX6_next_217 : decode cX6_next 217 = .ok (.iload_n 1, 1) := by decide +kernel
theorem dX6_next_218 : decode cX6_next 218 = .ok (.iaload, 1) := by decide +kernel
theorem dX6_next_219 : decode cX6_next 219 = .ok (.iload_n 2, 1) := by decide +kernel
theorem dX6_next_220 : decode cX6_next 220 = .ok (.if_icmp .ne 6, 3) := by decide +kernel
theorem dX6_next_223 : decode cX6_next 223 = .ok (.goto 24, 3) := by decide +kernel
theorem dX6_next_226 : decode cX6_next 226 = .ok (.aload_n 0, 1) := by decide +kernel
theorem dX6_next_227 : decode cX6_next 227 = .ok (.getfield 40, 3) := by decide +kernel
theorem dX6_next_230 : decode cX6_next 230 = .ok (.iload_n 1, 1) := by decide +kernel
theorem dX6_next_231 : decode cX6_next 231 = .ok (.iconst 0, 1) := by decide +kernel
theorem dX6_next_232 : decode cX6_next 232 = .ok (.iastore, 1) := by decide +kernel
theorem dX6_next_233 : decode cX6_next 233 = .ok (.aload_n 0, 1) := by decide +kernel
theorem dX6_next_234 : decode cX6_next 234 = .ok (.getfield 43, 3) := by decide +kernel
theorem dX6_next_237 : decode cX6_next 237 = .ok (.iload_n 1, 1) := by decide +kernel
theorem dX6_next_238 : decode cX6_next 238 = .ok (.iconst 0, 1) := by decide +kernel
theorem dX6_next_239 : decode cX6_next 239 = .ok (.iastore, 1) := by decide +kernel
theorem dX6_next_240 : decode cX6_next 240 = .ok (.aload_n 0, 1) := by decide +kernel
theorem dX6_next_241 : decode cX6_next 241 = .ok (.getfield 46, 3) := by decide +kernel
theorem dX6_next_244 : decode cX6_next 244 = .ok (.iload_n 1, 1) := by decide +kernel
theorem dX6_next_245 : decode cX6_next 245 = .ok (.iconst 0, 1) := by decide +kernel
theorem dX6_next_246 : decode cX6_next 246 = .ok (.iastore, 1) := by decide +kernel
theorem dX6_next_247 : decode cX6_next 247 = .ok (.iinc 1 1, 3) := by decide +kernel
theorem dX6_next_250 : decode cX6_next 250 = .ok (.goto (-159), 3) := by decide +kernel
theorem dX6_next_253 : decode cX6_next 253 = .ok (.aload_n 0, 1) := by decide +kernel
theorem dX6_next_254 : decode cX6_next 254 = .ok (.iconst 0, 1) := by decide +kernel
theorem dX6_next_255 : decode cX6_next 255 = .ok (.putfield 184, 3) := by decide +kernel
theorem dX6_next_258 : decode cX6_next 258 = .ok (.aload_n 0, 1) := by decide +kernel
theorem dX6_next_259 : decode cX6_next 259 = .ok (.iconst 0, 1) := by decide +kernel
theorem dX6_next_260 : decode cX6_next 260 = .ok (.putfield 250, 3) := by decide +kernel
theorem dX6_next_263 : decode cX6_next 263 = .ok (.aload_n 0, 1) := by decide +kernel
theorem dX6_next_264 : decode cX6_next 264 = .ok (.dup, 1) := by decide +kernel
theorem dX6_next_265 : decode cX6_next 265 = .ok (.getfield 194, 3) := by decide +kernel
theorem dX6_next_268 : decode cX6_next 268 = .ok (.iconst 1, 1) := by decide +kernel
theorem dX6_next_269 : decode cX6_next 269 = .ok (.iadd, 1) := by decide +kernel
theorem dX6_next_270 : decode cX6_next 270 = .ok (.putfield 194, 3) := by decide +kernel
theorem dX6_next_273 : decode cX6_next 273 = .ok (.aload_n 0, 1) := by decide +kernel
theorem dX6_next_274 : decode cX6_next 274 = .ok (.getfield 194, 3) := by decide +kernel
theorem dX6_next_277 : decode cX6_next 277 = .ok (.ireturn, 1) := by decide +kernel
theorem dX6_about_0 : decode cX6_about 0 = .ok (.aload_n 0, 1) := by decide +kernel
theorem dX6_about_1 : decode cX6_about 1 = .ok (.iload_n 1, 1) := by decide +kernel
theorem dX6_about_2 : decode cX6_about 2 = .ok (.invokevirtual 191, 3) := by decide +kernel
theorem dX6_about_5 : decode cX6_about 5 = .ok (.ifCond .eq 12, 3) := by decide +kernel
theorem dX6_about_8 : decode cX6_about 8 = .ok (.iload_n 2, 1) := by decide +kernel
theorem dX6_about_9 : decode cX6_about 9 = .ok (.ifCond .lt 8, 3) := by decide +kernel
theorem dX6_about_12 : decode cX6_about 12 = .ok (.iload_n 2, 1) := by decide +kernel
theorem dX6_about_13 : decode cX6_about 13 = .ok (.iconst 5, 1) := by decide +kernel
theorem dX6_about_14 : decode cX6_about 14 = .ok (.if_icmp .le 8, 3) := by decide +kernel
theorem dX6_about_17 : decode cX6_about 17 = .ok (.aload_n 0, 1) := by decide +kernel
theorem dX6_about_18 : decode cX6_about 18 = .ok (.invokevirtual 262, 3) := by decide +kernel
theorem dX6_about_21 : decode cX6_about 21 = .ok (.ireturn, 1) := by decide +kernel
theorem dX6_about_22 : decode cX6_about 22 = .ok (.aload_n 0, 1) := by decide +kernel
theorem dX6_about_23 : decode cX6_about 23 = .ok (.iconst 0, 1) := by decide +kernel
theorem dX6_about_24 : decode cX6_about 24 = .ok (.putfield 101, 3) := by decide +kernel
theorem dX6_about_27 : decode cX6_about 27 = .ok (.iload_n 2, 1) := by decide +kernel
theorem dX6_about_28 : decode cX6_about 28 = .ok (.tableswitch 70 0 4 #[36, 43, 49, 56, 63], 36) := by decide +kernel
theorem dX6_about_64 : decode cX6_about 64 = .ok (.aload_n 0, 1) := by decide +kernel
theorem dX6_about_65 : decode cX6_about 65 = .ok (.getfield 34, 3) := by decide +kernel
theorem dX6_about_68 : decode cX6_about 68 = .ok (.iload_n 1, 1) := by decide +kernel
theorem dX6_about_69 : decode cX6_about 69 = .ok (.iaload, 1) := by decide +kernel
theorem dX6_about_70 : decode cX6_about 70 = .ok (.ireturn, 1) := by decide +kernel
theorem dX6_about_71 : decode cX6_about 71 = .ok (.aload_n 0, 1) := by decide +kernel
theorem dX6_about_72 : decode cX6_about 72 = .ok (.iload_n 1, 1) := by decide +kernel
theorem dX6_about_73 : decode cX6_about 73 = .ok (.invokevirtual 197, 3) := by decide +kernel
theorem dX6_about_76 : decode cX6_about 76 = .ok (.ireturn, 1) := by decide +kernel
theorem dX6_about_77 : decode cX6_about 77 = .ok (.aload_n 0, 1) := by decide +kernel
theorem dX6_about_78 : decode cX6_about 78 = .ok (.getfield 49, 3) := by decide +kernel
theorem dX6_about_81 : decode cX6_about 81 = .ok (.iload_n 1, 1) := by decide +kernel
theorem dX6_about_82 : decode cX6_about 82 = .ok (.iaload, 1) := by decide +kernel
theorem dX6_about_83 : decode cX6_about 83 = .ok (.ireturn, 1) := by decide +kernel
theorem dX6_about_84 : decode cX6_about 84 = .ok (.aload_n 0, 1) := by decide +kernel
theorem dX6_about_85 : decode cX6_about 85 = .ok (.getfield 40, 3) := by decide +kernel
theorem dX6_about_88 : decode cX6_about 88 = .ok (.iload_n 1, 1) := by decide +kernel
theorem dX6_about_89 : decode cX6_about 89 = .ok (.iaload, 1) := by decide +kernel
theorem dX6_about_90 : decode cX6_about 90 = .ok (.ireturn, 1) := by decide +kernel
theorem dX6_about_91 : decode cX6_about 91 = .ok (.aload_n 0, 1) := by decide +kernel
theorem dX6_about_92 : decode cX6_about 92 = .ok (.getfield 43, 3) := by decide +kernel
theorem dX6_about_95 : decode cX6_about 95 = .ok (.iload_n 1, 1) := by decide +kernel
theorem dX6_about_96 : decode cX6_about 96 = .ok (.iaload, 1) := by decide +kernel
theorem dX6_about_97 : decode cX6_about 97 = .ok (.ireturn, 1) := by decide +kernel
theorem dX6_about_98 : decode cX6_about 98 = .ok (.aload_n 0, 1) := by decide +kernel
theorem dX6_about_99 : decode cX6_about 99 = .ok (.getfield 46, 3) := by decide +kernel
theorem dX6_about_102 : decode cX6_about 102 = .ok (.iload_n 1, 1) := by decide +kernel
theorem dX6_about_103 : decode cX6_about 103 = .ok (.iaload, 1) := by decide +kernel
theorem dX6_about_104 : decode cX6_about 104 = .ok (.ireturn, 1) := by decide +kernel
theorem dX6_stood_0 : decode cX6_stood 0 = .ok (.aload_n 0, 1) := by decide +kernel
theorem dX6_stood_1 : decode cX6_stood 1 = .ok (.iconst 0, 1) := by decide +kernel
theorem dX6_stood_2 : decode cX6_stood 2 = .ok (.putfield 101, 3) := by decide +kernel
theorem dX6_stood_5 : decode cX6_stood 5 = .ok (.aload_n 0, 1) := by decide +kernel
theorem dX6_stood_6 : decode cX6_stood 6 = .ok (.iload_n 1, 1) := by decide +kernel
theorem dX6_stood_7 : decode cX6_stood 7 = .ok (.invokevirtual 191, 3) := by decide +kernel
theorem dX6_stood_10 : decode cX6_stood 10 = .ok (.ifCond .eq 31, 3) := by decide +kernel
theorem dX6_stood_13 : decode cX6_stood 13 = .ok (.iload_n 2, 1) := by decide +kernel
theorem dX6_stood_14 : decode cX6_stood 14 = .ok (.iconst 0, 1) := by decide +kernel
theorem dX6_stood_15 : decode cX6_stood 15 = .ok (.aload_n 0, 1) := by decide +kernel
theorem dX6_stood_16 : decode cX6_stood 16 = .ok (.getfield 194, 3) := by decide +kernel
theorem dX6_stood_19 : decode cX6_stood 19 = .ok (.iconst 1, 1) := by decide +kernel
theorem dX6_stood_20 : decode cX6_stood 20 = .ok (.isub, 1) := by decide +kernel
theorem dX6_stood_21 : decode cX6_stood 21 = .ok (.invokestatic 187, 3) := by decide +kernel
theorem dX6_stood_24 : decode cX6_stood 24 = .ok (.ifCond .eq 17, 3) := by decide +kernel
theorem dX6_stood_27 : decode cX6_stood 27 = .ok (.aload_n 0, 1) := by decide +kernel
theorem dX6_stood_28 : decode cX6_stood 28 = .ok (.getfield 52, 3) := by decide +kernel
theorem dX6_stood_31 : decode cX6_stood 31 = .ok (.bipush 100, 2) := by decide +kernel
theorem dX6_stood_33 : decode cX6_stood 33 = .ok (.iload_n 1, 1) := by decide +kernel
theorem dX6_stood_34 : decode cX6_stood 34 = .ok (.imul, 1) := by decide +kernel
theorem dX6_stood_35 : decode cX6_stood 35 = .ok (.iload_n 2, 1) := by decide +kernel
theorem dX6_stood_36 : decode cX6_stood 36 = .ok (.iadd, 1) := by decide +kernel
theorem dX6_stood_37 : decode cX6_stood 37 = .ok (.iaload, 1) := by decide +kernel
theorem dX6_stood_38 : decode cX6_stood 38 = .ok (.goto 4, 3) := by decide +kernel
theorem dX6_stood_41 : decode cX6_stood 41 = .ok (.iconst (-1), 1) := by decide +kernel
theorem dX6_stood_42 : decode cX6_stood 42 = .ok (.ireturn, 1) := by decide +kernel
theorem dX6_together_0 : decode cX6_together 0 = .ok (.aload_n 0, 1) := by decide +kernel
theorem dX6_together_1 : decode cX6_together 1 = .ok (.iconst 0, 1) := by decide +kernel
theorem dX6_together_2 : decode cX6_together 2 = .ok (.putfield 101, 3) := by decide +kernel
theorem dX6_together_5 : decode cX6_together 5 = .ok (.iconst 0, 1) := by decide +kernel
theorem dX6_together_6 : decode cX6_together 6 = .ok (.istore_n 1, 1) := by decide +kernel
theorem dX6_together_7 : decode cX6_together 7 = .ok (.iconst 0, 1) := by decide +kernel
theorem dX6_together_8 : decode cX6_together 8 = .ok (.istore_n 2, 1) := by decide +kernel
theorem dX6_together_9 : decode cX6_together 9 = .ok (.iload_n 2, 1) := by decide +kernel
theorem dX6_together_10 : decode cX6_together 10 = .ok (.iconst 2, 1) := by decide +kernel
theorem dX6_together_11 : decode cX6_together 11 = .ok (.aload_n 0, 1) := by decide +kernel
theorem dX6_together_12 : decode cX6_together 12 = .ok (.getfield 184, 3) := by decide +kernel
theorem dX6_together_15 : decode cX6_together 15 = .ok (.imul, 1) := by decide +kernel
theorem dX6_together_16 : decode cX6_together 16 = .ok (.if_icmp .ge 33, 3) := by decide +kernel
theorem dX6_together_19 : decode cX6_together 19 = .ok (.aload_n 0, 1) := by decide +kernel
theorem dX6_together_20 : decode cX6_together 20 = .ok (.getfield 71, 3) := by decide +kernel
theorem dX6_together_23 : decode cX6_together 23 = .ok (.iload_n 2, 1) := by decide +kernel
theorem dX6_together_24 : decode cX6_together 24 = .ok (.iaload, 1) := by decide +kernel
theorem dX6_together_25 : decode cX6_together 25 = .ok (.iconst (-1), 1) := by decide +kernel
theorem dX6_together_26 : decode cX6_together 26 = .ok (.if_icmp .eq 17, 3) := by decide +kernel
theorem dX6_together_29 : decode cX6_together 29 = .ok (.iload_n 1, 1) := by decide +kernel
theorem dX6_together_30 : decode cX6_together 30 = .ok (.aload_n 0, 1) := by decide +kernel
theorem dX6_together_31 : decode cX6_together 31 = .ok (.aload_n 0, 1) := by decide +kernel
theorem dX6_together_32 : decode cX6_together 32 = .ok (.getfield 71, 3) := by decide +kernel
theorem dX6_together_35 : decode cX6_together 35 = .ok (.iload_n 2, 1) := by decide +kernel
theorem dX6_together_36 : decode cX6_together 36 = .ok (.iaload, 1) := by decide +kernel
theorem dX6_together_37 : decode cX6_together 37 = .ok (.iload_n 2, 1) := by decide +kernel
theorem dX6_together_38 : decode cX6_together 38 = .ok (.invokevirtual 214, 3) := by decide +kernel
theorem dX6_together_41 : decode cX6_together 41 = .ok (.iadd, 1) := by decide +kernel
theorem dX6_together_42 : decode cX6_together 42 = .ok (.istore_n 1, 1) := by decide +kernel
theorem dX6_together_43 : decode cX6_together 43 = .ok (.iinc 2 1, 3) := by decide +kernel
theorem dX6_together_46 : decode cX6_together 46 = .ok (.goto (-37), 3) := by decide +kernel
theorem dX6_together_49 : decode cX6_together 49 = .ok (.iload_n 1, 1) := by decide +kernel
theorem dX6_together_50 : decode cX6_together 50 = .ok (.ireturn, 1) := by decide +kernel
theorem dX6_count_0 : decode cX6_count 0 = .ok (.aload_n 0, 1) := by decide +kernel
theorem dX6_count_1 : decode cX6_count 1 = .ok (.iconst 0, 1) := by decide +kernel
theorem dX6_count_2 : decode cX6_count 2 = .ok (.putfield 101, 3) := by decide +kernel
theorem dX6_count_5 : decode cX6_count 5 = .ok (.iload_n 1, 1) := by decide +kernel
theorem dX6_count_6 : decode cX6_count 6 = .ok (.tableswitch 68 0 5 #[38, 43, 48, 53, 58, 63], 38) := by decide +kernel
theorem dX6_count_44 : decode cX6_count 44 = .ok (.aload_n 0, 1) := by decide +kernel
theorem dX6_count_45 : decode cX6_count 45 = .ok (.getfield 194, 3) := by decide +kernel
theorem dX6_count_48 : decode cX6_count 48 = .ok (.ireturn, 1) := by decide +kernel
theorem dX6_count_49 : decode cX6_count 49 = .ok (.aload_n 0, 1) := by decide +kernel
theorem dX6_count_50 : decode cX6_count 50 = .ok (.getfield 181, 3) := by decide +kernel
theorem dX6_count_53 : decode cX6_count 53 = .ok (.ireturn, 1) := by decide +kernel
theorem dX6_count_54 : decode cX6_count 54 = .ok (.aload_n 0, 1) := by decide +kernel
theorem dX6_count_55 : decode cX6_count 55 = .ok (.getfield 184, 3) := by decide +kernel
theorem dX6_count_58 : decode cX6_count 58 = .ok (.ireturn, 1) := by decide +kernel
theorem dX6_count_59 : decode cX6_count 59 = .ok (.aload_n 0, 1) := by decide +kernel
theorem dX6_count_60 : decode cX6_count 60 = .ok (.invokevirtual 256, 3) := by decide +kernel
theorem dX6_count_63 : decode cX6_count 63 = .ok (.ireturn, 1) := by decide +kernel
theorem dX6_count_64 : decode cX6_count 64 = .ok (.aload_n 0, 1) := by decide +kernel
theorem dX6_count_65 : decode cX6_count 65 = .ok (.getfield 250, 3) := by decide +kernel
theorem dX6_count_68 : decode cX6_count 68 = .ok (.ireturn, 1) := by decide +kernel
theorem dX6_count_69 : decode cX6_count 69 = .ok (.aload_n 0, 1) := by decide +kernel
theorem dX6_count_70 : decode cX6_count 70 = .ok (.getfield 105, 3) := by decide +kernel
theorem dX6_count_73 : decode cX6_count 73 = .ok (.ireturn, 1) := by decide +kernel
theorem dX6_count_74 : decode cX6_count 74 = .ok (.iconst (-1), 1) := by decide +kernel
theorem dX6_count_75 : decode cX6_count 75 = .ok (.ireturn, 1) := by decide +kernel
