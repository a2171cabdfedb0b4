theorem dX7_init_0 : decode cX7_init 0 = .ok (.aload_n 0, 1) := by decide +kernel
theorem dX7_init_1 : decode cX7_init 1 = .ok (.invokespecial 1, 3) := by decide +kernel
theorem dX7_init_4 : decode cX7_init 4 = .ok (.aload_n 0, 1) := by decide +kernel
theorem dX7_init_5 : decode cX7_init 5 = .ok (.sipush 330, 3) := by decide +kernel
theorem dX7_init_8 : decode cX7_init 8 = .ok (.newarray .int, 2) := by decide +kernel
theorem dX7_init_10 : decode cX7_init 10 = .ok (.putfield 7, 3) := by decide +kernel
theorem dX7_init_13 : decode cX7_init 13 = .ok (.aload_n 0, 1) := by decide +kernel
theorem dX7_init_14 : decode cX7_init 14 = .ok (.bipush 55, 2) := by decide +kernel
theorem dX7_init_16 : decode cX7_init 16 = .ok (.newarray .int, 2) := by decide +kernel
theorem dX7_init_18 : decode cX7_init 18 = .ok (.putfield 13, 3) := by decide +kernel
theorem dX7_init_21 : decode cX7_init 21 = .ok (.aload_n 0, 1) := by decide +kernel
theorem dX7_init_22 : decode cX7_init 22 = .ok (.sipush 160, 3) := by decide +kernel
theorem dX7_init_25 : decode cX7_init 25 = .ok (.newarray .int, 2) := by decide +kernel
theorem dX7_init_27 : decode cX7_init 27 = .ok (.putfield 16, 3) := by decide +kernel
theorem dX7_init_30 : decode cX7_init 30 = .ok (.aload_n 0, 1) := by decide +kernel
theorem dX7_init_31 : decode cX7_init 31 = .ok (.bipush 7, 2) := by decide +kernel
theorem dX7_init_33 : decode cX7_init 33 = .ok (.newarray .int, 2) := by decide +kernel
theorem dX7_init_35 : decode cX7_init 35 = .ok (.dup, 1) := by decide +kernel
theorem dX7_init_36 : decode cX7_init 36 = .ok (.iconst 0, 1) := by decide +kernel
theorem dX7_init_37 : decode cX7_init 37 = .ok (.iconst 0, 1) := by decide +kernel
theorem dX7_init_38 : decode cX7_init 38 = .ok (.iastore, 1) := by decide +kernel
theorem dX7_init_39 : decode cX7_init 39 = .ok (.dup, 1) := by decide +kernel
theorem dX7_init_40 : decode cX7_init 40 = .ok (.iconst 1, 1) := by decide +kernel
theorem dX7_init_41 : decode cX7_init 41 = .ok (.iconst 5, 1) := by decide +kernel
theorem dX7_init_42 : decode cX7_init 42 = .ok (.iastore, 1) := by decide +kernel
theorem dX7_init_43 : decode cX7_init 43 = .ok (.dup, 1) := by decide +kernel
theorem dX7_init_44 : decode cX7_init 44 = .ok (.iconst 2, 1) := by decide +kernel
theorem dX7_init_45 : decode cX7_init 45 = .ok (.bipush 12, 2) := by decide +kernel
theorem dX7_init_47 : decode cX7_init 47 = .ok (.iastore, 1) := by decide +kernel
theorem dX7_init_48 : decode cX7_init 48 = .ok (.dup, 1) := by decide +kernel
theorem dX7_init_49 : decode cX7_init 49 = .ok (.iconst 3, 1) := by decide +kernel
theorem dX7_init_50 : decode cX7_init 50 = .ok (.bipush 17, 2) := by decide +kernel
theorem dX7_init_52 : decode cX7_init 52 = .ok (.iastore, 1) := by decide +kernel
theorem dX7_init_53 : decode cX7_init 53 = .ok (.dup, 1) := by decide +kernel
theorem dX7_init_54 : decode cX7_init 54 = .ok (.iconst 4, 1) := by decide +kernel
theorem dX7_init_55 : decode cX7_init 55 = .ok (.bipush 25, 2) := by decide +kernel
theorem dX7_init_57 : decode cX7_init 57 = .ok (.iastore, 1) := by decide +kernel
theorem dX7_init_58 : decode cX7_init 58 = .ok (.dup, 1) := by decide +kernel
theorem dX7_init_59 : decode cX7_init 59 = .ok (.iconst 5, 1) := by decide +kernel
theorem dX7_init_60 : decode cX7_init 60 = .ok (.bipush 28, 2) := by decide +kernel
theorem dX7_init_62 : decode cX7_init 62 = .ok (.iastore, 1) := by decide +kernel
theorem dX7_init_63 : decode cX7_init 63 = .ok (.dup, 1) := by decide +kernel
theorem dX7_init_64 : decode cX7_init 64 = .ok (.bipush 6, 2) := by decide +kernel
theorem dX7_init_66 : decode cX7_init 66 = .ok (.bipush 32, 2) := by decide +kernel
theorem dX7_init_68 : decode cX7_init 68 = .ok (.iastore, 1) := by decide +kernel
theorem dX7_init_69 : decode cX7_init 69 = .ok (.putfield 19, 3) := by decide +kernel
theorem dX7_init_72 : decode cX7_init 72 = .ok (.aload_n 0, 1) := by decide +kernel
theorem dX7_init_73 : decode cX7_init 73 = .ok (.bipush 32, 2) := by decide +kernel
theorem dX7_init_75 : decode cX7_init 75 = .ok (.newarray .int, 2) := by decide +kernel
theorem dX7_init_77 : decode cX7_init 77 = .ok (.dup, 1) := by decide +kernel
theorem dX7_init_78 : decode cX7_init 78 = .ok (.iconst 0, 1) := by decide +kernel
theorem dX7_init_79 : decode cX7_init 79 = .ok (.bipush 112, 2) := by decide +kernel
theorem dX7_init_81 : decode cX7_init 81 = .ok (.iastore, 1) := by decide +kernel
theorem dX7_init_82 : decode cX7_init 82 = .ok (.dup, 1) := by decide +kernel
theorem dX7_init_83 : decode cX7_init 83 = .ok (.iconst 1, 1) := by decide +kernel
theorem dX7_init_84 : decode cX7_init 84 = .ok (.bipush 108, 2) := by decide +kernel
theorem dX7_init_86 : decode cX7_init 86 = .ok (.iastore, 1) := by decide +kernel
theorem dX7_init_87 : decode cX7_init 87 = .ok (.dup, 1) := by decide +kernel
theorem dX7_init_88 : decode cX7_init 88 = .ok (.iconst 2, 1) := by decide +kernel
theorem dX7_init_89 : decode cX7_init 89 = .ok (.bipush 97, 2) := by decide +kernel
theorem dX7_init_91 : decode cX7_init 91 = .ok (.iastore, 1) := by decide +kernel
theorem dX7_init_92 : decode cX7_init 92 = .ok (.dup, 1) := by decide +kernel
theorem dX7_init_93 : decode cX7_init 93 = .ok (.iconst 3, 1) := by decide +kernel
theorem dX7_init_94 : decode cX7_init 94 = .ok (.bipush 105, 2) := by decide +kernel
theorem dX7_init_96 : decode cX7_init 96 = .ok (.iastore, 1) := by decide +kernel
theorem dX7_init_97 : decode cX7_init 97 = .ok (.dup, 1) := by decide +kernel
theorem dX7_init_98 : decode cX7_init 98 = .ok (.iconst 4, 1) := by decide +kernel
theorem dX7_init_99 : decode cX7_init 99 = .ok (.bipush 110, 2) := by decide +kernel
theorem dX7_init_101 : decode cX7_init 101 = .ok (.iastore, 1) := by decide +kernel
theorem dX7_init_102 : decode cX7_init 102 = .ok (.dup, 1) := by decide +kernel
theorem dX7_init_103 : decode cX7_init 103 = .ok (.iconst 5, 1) := by decide +kernel
theorem dX7_init_104 : decode cX7_init 104 = .ok (.bipush 108, 2) := by decide +kernel
theorem dX7_init_106 : decode cX7_init 106 = .ok (.iastore, 1) := by decide +kernel
theorem dX7_init_107 : decode cX7_init 107 = .ok (.dup, 1) := by decide +kernel
theorem dX7_init_108 : decode cX7_init 108 = .ok (.bipush 6, 2) := by decide +kernel
theorem dX7_init_110 : decode cX7_init 110 = .ok (.bipush 97, 2) := by decide +kernel
theorem dX7_init_112 : decode cX7_init 112 = .ok (.iastore, 1) := by decide +kernel
theorem dX7_init_113 : decode cX7_init 113 = .ok (.dup, 1) := by decide +kernel
theorem dX7_init_114 : decode cX7_init 114 = .ok (.bipush 7, 2) := by decide +kernel
theorem dX7_init_116 : decode cX7_init 116 = .ok (.bipush 115, 2) := by decide +kernel
theorem dX7_init_118 : decode cX7_init 118 = .ok (.iastore, 1) := by decide +kernel
theorem dX7_init_119 : decode cX7_init 119 = .ok (.dup, 1) := by decide +kernel
theorem dX7_init_120 : decode cX7_init 120 = .ok (.bipush 8, 2) := by decide +kernel
theorem dX7_init_122 : decode cX7_init 122 = .ok (.bipush 116, 2) := by decide +kernel
theorem dX7_init_124 : decode cX7_init 124 = .ok (.iastore, 1) := by decide +kernel
theorem dX7_init_125 : decode cX7_init 125 = .ok (.dup, 1) := by decide +kernel
theorem dX7_init_126 : decode cX7_init 126 = .ok (.bipush 9, 2) := by decide +kernel
theorem dX7_init_128 : decode cX7_init 128 = .ok (.bipush 105, 2) := by decide +kernel
theorem dX7_init_130 : decode cX7_init 130 = .ok (.iastore, 1) := by decide +kernel
theorem dX7_init_131 : decode cX7_init 131 = .ok (.dup, 1) := by decide +kernel
theorem dX7_init_132 : decode cX7_init 132 = .ok (.bipush 10, 2) := by decide +kernel
theorem dX7_init_134 : decode cX7_init 134 = .ok (.bipush 110, 2) := by decide +kernel
theorem dX7_init_136 : decode cX7_init 136 = .ok (.iastore, 1) := by decide +kernel
theorem dX7_init_137 : decode cX7_init 137 = .ok (.dup, 1) := by decide +kernel
theorem dX7_init_138 : decode cX7_init 138 = .ok (.bipush 11, 2) := by decide +kernel
theorem dX7_init_140 : decode cX7_init 140 = .ok (.bipush 103, 2) := by decide +kernel
theorem dX7_init_142 : decode cX7_init 142 = .ok (.iastore, 1) := by decide +kernel
theorem dX7_init_143 : decode cX7_init 143 = .ok (.dup, 1) := by decide +kernel
theorem dX7_init_144 : decode cX7_init 144 = .ok (.bipush 12, 2) := by decide +kernel
theorem dX7_init_146 : decode cX7_init 146 = .ok (.bipush 114, 2) := by decide +kernel
theorem dX7_init_148 : decode cX7_init 148 = .ok (.iastore, 1) := by decide +kernel
theorem dX7_init_149 : decode cX7_init 149 = .ok (.dup, 1) := by decide +kernel
theorem dX7_init_150 : decode cX7_init 150 = .ok (.bipush 13, 2) := by decide +kernel
theorem dX7_init_152 : decode cX7_init 152 = .ok (.bipush 111, 2) := by decide +kernel
theorem dX7_init_154 : decode cX7_init 154 = .ok (.iastore, 1) := by decide +kernel
theorem dX7_init_155 : decode cX7_init 155 = .ok (.dup, 1) := by decide +kernel
theorem dX7_init_156 : decode cX7_init 156 = .ok (.bipush 14, 2) := by decide +kernel
theorem dX7_init_158 : decode cX7_init 158 = .ok (.bipush 121, 2) := by decide +kernel
theorem dX7_init_160 : decode cX7_init 160 = .ok (.iastore, 1) := by decide +kernel
theorem dX7_init_161 : decode cX7_init 161 = .ok (.dup, 1) := by decide +kernel
theorem dX7_init_162 : decode cX7_init 162 = .ok (.bipush 15, 2) := by decide +kernel
theorem dX7_init_164 : decode cX7_init 164 = .ok (.bipush 97, 2) := by decide +kernel
theorem dX7_init_166 : decode cX7_init 166 = .ok (.iastore, 1) := by decide +kernel
theorem dX7_init_167 : decode cX7_init 167 = .ok (.dup, 1) := by decide +kernel
theorem dX7_init_168 : decode cX7_init 168 = .ok (.bipush 16, 2) := by decide +kernel
theorem dX7_init_170 : decode cX7_init 170 = .ok (.bipush 108, 2) := by decide +kernel
theorem dX7_init_172 : decode cX7_init 172 = .ok (.iastore, 1) := by decide +kernel
theorem dX7_init_173 : decode cX7_init 173 = .ok (.dup, 1) := by decide +kernel
theorem dX7_init_174 : decode cX7_init 174 = .ok (.bipush 17, 2) := by decide +kernel
theorem dX7_init_176 : decode cX7_init 176 = .ok (.bipush 102, 2) := by decide +kernel
theorem dX7_init_178 : decode cX7_init 178 = .ok (.iastore, 1) := by decide +kernel
theorem dX7_init_179 : decode cX7_init 179 = .ok (.dup, 1) := by decide +kernel
theorem dX7_init_180 : decode cX7_init 180 = .ok (.bipush 18, 2) := by decide +kernel
theorem dX7_init_182 : decode cX7_init 182 = .ok (.bipush 117, 2) := by decide +kernel
theorem dX7_init_184 : decode cX7_init 184 = .ok (.iastore, 1) := by decide +kernel
theorem dX7_init_185 : decode cX7_init 185 = .ok (.dup, 1) := by decide +kernel
theorem dX7_init_186 : decode cX7_init 186 = .ok (.bipush 19, 2) := by decide +kernel
theorem dX7_init_188 : decode cX7_init 188 = .ok (.bipush 103, 2) := by decide +kernel
theorem dX7_init_190 : decode cX7_init 190 = .ok (.iastore, 1) := by decide +kernel
theorem dX7_init_191 : decode cX7_init 191 = .ok (.dup, 1) := by decide +kernel
theorem dX7_init_192 : decode cX7_init 192 = .ok (.bipush 20, 2) := by decide +kernel
theorem dX7_init_194 : decode cX7_init 194 = .ok (.bipush 105, 2) := by decide +kernel
theorem dX7_init_196 : decode cX7_init 196 = .ok (.iastore, 1) := by decide +kernel
theorem dX7_init_197 : decode cX7_init 197 = .ok (.dup, 1) := by decide +kernel
theorem dX7_init_198 : decode cX7_init 198 = .ok (.bipush 21, 2) := by decide +kernel
theorem dX7_init_200 : decode cX7_init 200 = .ok (.bipush 116, 2) := by decide +kernel
theorem dX7_init_202 : decode cX7_init 202 = .ok (.iastore, 1) := by decide +kernel
theorem dX7_init_203 : decode cX7_init 203 = .ok (.dup, 1) := by decide +kernel
theorem dX7_init_204 : decode cX7_init 204 = .ok (.bipush 22, 2) := by decide +kernel
theorem dX7_init_206 : decode cX7_init 206 = .ok (.bipush 105, 2) := by decide +kernel
theorem dX7_init_208 : decode cX7_init 208 = .ok (.iastore, 1) := by decide +kernel
theorem dX7_init_209 : decode cX7_init 209 = .ok (.dup, 1) := by decide +kernel
theorem dX7_init_210 : decode cX7_init 210 = .ok (.bipush 23, 2) := by decide +kernel
theorem dX7_init_212 : decode cX7_init 212 = .ok (.bipush 118, 2) := by decide +kernel
theorem dX7_init_214 : decode cX7_init 214 = .ok (.iastore, 1) := by decide +kernel
theorem dX7_init_215 : decode cX7_init 215 = .ok (.dup, 1) := by decide +kernel
theorem dX7_init_216 : decode cX7_init 216 = .ok (.bipush 24, 2) := by decide +kernel
theorem dX7_init_218 : decode cX7_init 218 = .ok (.bipush 101, 2) := by decide +kernel
theorem dX7_init_220 : decode cX7_init 220 = .ok (.iastore, 1) := by decide +kernel
theorem dX7_init_221 : decode cX7_init 221 = .ok (.dup, 1) := by decide +kernel
theorem dX7_init_222 : decode cX7_init 222 = .ok (.bipush 25, 2) := by decide +kernel
theorem dX7_init_224 : decode cX7_init 224 = .ok (.bipush 111, 2) := by decide +kernel
theorem dX7_init_226 : decode cX7_init 226 = .ok (.iastore, 1) := by decide +kernel
theorem dX7_init_227 : decode cX7_init 227 = .ok (.dup, 1) := by decide +kernel
theorem dX7_init_228 : decode cX7_init 228 = .ok (.bipush 26, 2) := by decide +kernel
theorem dX7_init_230 : decode cX7_init 230 = .ok (.bipush 110, 2) := by decide +kernel
theorem dX7_init_232 : decode cX7_init 232 = .ok (.iastore, 1) := by decide +kernel
theorem dX7_init_233 : decode cX7_init 233 = .ok (.dup, 1) := by decide +kernel
theorem dX7_init_234 : decode cX7_init 234 = .ok (.bipush 27, 2) := by decide +kernel
theorem dX7_init_236 : decode cX7_init 236 = .ok (.bipush 101, 2) := by decide +kernel
theorem dX7_init_238 : decode cX7_init 238 = .ok (.iastore, 1) := by decide +kernel
theorem dX7_init_239 : decode cX7_init 239 = .ok (.dup, 1) := by decide +kernel
theorem dX7_init_240 : decode cX7_init 240 = .ok (.bipush 28, 2) := by decide +kernel
theorem dX7_init_242 : decode cX7_init 242 = .ok (.bipush 108, 2) := by decide +kernel
theorem dX7_init_244 : decode cX7_init 244 = .ok (.iastore, 1) := by decide +kernel
theorem dX7_init_245 : decode cX7_init 245 = .ok (.dup, 1) := by decide +kernel
theorem dX7_init_246 : decode cX7_init 246 = .ok (.bipush 29, 2) := by decide +kernel
theorem dX7_init_248 : decode cX7_init 248 = .ok (.bipush 101, 2) := by decide +kernel
theorem dX7_init_250 : decode cX7_init 250 = .ok (.iastore, 1) := by decide +kernel
theorem dX7_init_251 : decode cX7_init 251 = .ok (.dup, 1) := by decide +kernel
theorem dX7_init_252 : decode cX7_init 252 = .ok (.bipush 30, 2) := by decide +kernel
theorem dX7_init_254 : decode cX7_init 254 = .ok (.bipush 110, 2) := by decide +kernel
theorem dX7_init_256 : decode cX7_init 256 = .ok (.iastore, 1) := by decide +kernel
theorem dX7_init_257 : decode cX7_init 257 = .ok (.dup, 1) := by decide +kernel
theorem dX7_init_258 : decode cX7_init 258 = .ok (.bipush 31, 2) := by decide +kernel
theorem dX7_init_260 : decode cX7_init 260 = .ok (.bipush 116, 2) := by decide +kernel
theorem dX7_init_262 : decode cX7_init 262 = .ok (.iastore, 1) := by decide +kernel
theorem dX7_init_263 : decode cX7_init 263 = .ok (.putfield 22, 3) := by decide +kernel
theorem dX7_init_266 : decode cX7_init 266 = .ok (.aload_n 0, 1) := by decide +kernel
theorem dX7_init_267 : decode cX7_init 267 = .ok (.iconst 4, 1) := by decide +kernel
theorem dX7_init_268 : decode cX7_init 268 = .ok (.newarray .int, 2) := by decide +kernel
theorem dX7_init_270 : decode cX7_init 270 = .ok (.putfield 25, 3) := by decide +kernel
theorem dX7_init_273 : decode cX7_init 273 = .ok (.aload_n 0, 1) := by decide +kernel
theorem dX7_init_274 : decode cX7_init 274 = .ok (.iconst 5, 1) := by decide +kernel
theorem dX7_init_275 : decode cX7_init 275 = .ok (.newarray .int, 2) := by decide +kernel
theorem dX7_init_277 : decode cX7_init 277 = .ok (.putfield 28, 3) := by decide +kernel
theorem dX7_init_280 : decode cX7_init 280 = .ok (.aload_n 0, 1) := by decide +kernel
theorem dX7_init_281 : decode cX7_init 281 = .ok (.iconst 5, 1) := by decide +kernel
theorem dX7_init_282 : decode cX7_init 282 = .ok (.newarray .int, 2) := by decide +kernel
theorem dX7_init_284 : decode cX7_init 284 = .ok (.putfield 31, 3) := by decide +kernel
theorem dX7_init_287 : decode cX7_init 287 = .ok (.aload_n 0, 1) := by decide +kernel
theorem dX7_init_288 : decode cX7_init 288 = .ok (.bipush 18, 2) := by decide +kernel
theorem dX7_init_290 : decode cX7_init 290 = .ok (.newarray .int, 2) := by decide +kernel
theorem dX7_init_292 : decode cX7_init 292 = .ok (.putfield 34, 3) := by decide +kernel
theorem dX7_init_295 : decode cX7_init 295 = .ok (.aload_n 0, 1) := by decide +kernel
theorem dX7_init_296 : decode cX7_init 296 = .ok (.sipush 336, 3) := by decide +kernel
theorem dX7_init_299 : decode cX7_init 299 = .ok (.newarray .int, 2) := by decide +kernel
theorem dX7_init_301 : decode cX7_init 301 = .ok (.putfield 37, 3) := by decide +kernel
theorem dX7_init_304 : decode cX7_init 304 = .ok (.aload_n 0, 1) := by decide +kernel
theorem dX7_init_305 : decode cX7_init 305 = .ok (.iconst 2, 1) := by decide +kernel
theorem dX7_init_306 : decode cX7_init 306 = .ok (.newarray .boolean, 2) := by decide +kernel
theorem dX7_init_308 : decode cX7_init 308 = .ok (.putfield 40, 3) := by decide +kernel
theorem dX7_init_311 : decode cX7_init 311 = .ok (.aload_n 0, 1) := by decide +kernel
theorem dX7_init_312 : decode cX7_init 312 = .ok (.iconst 4, 1) := by decide +kernel
theorem dX7_init_313 : decode cX7_init 313 = .ok (.newarray .int, 2) := by decide +kernel
theorem dX7_init_315 : decode cX7_init 315 = .ok (.dup, 1) := by decide +kernel
theorem dX7_init_316 : decode cX7_init 316 = .ok (.iconst 0, 1) := by decide +kernel
theorem dX7_init_317 : decode cX7_init 317 = .ok (.bipush (-4), 2) := by decide +kernel
theorem dX7_init_319 : decode cX7_init 319 = .ok (.iastore, 1) := by decide +kernel
theorem dX7_init_320 : decode cX7_init 320 = .ok (.dup, 1) := by decide +kernel
theorem dX7_init_321 : decode cX7_init 321 = .ok (.iconst 1, 1) := by decide +kernel
theorem dX7_init_322 : decode cX7_init 322 = .ok (.bipush (-4), 2) := by decide +kernel
theorem dX7_init_324 : decode cX7_init 324 = .ok (.iastore, 1) := by decide +kernel
theorem dX7_init_325 : decode cX7_init 325 = .ok (.dup, 1) := by decide +kernel
theorem dX7_init_326 : decode cX7_init 326 = .ok (.iconst 2, 1) := by decide +kernel
theorem dX7_init_327 : decode cX7_init 327 = .ok (.bipush (-4), 2) := by decide +kernel
theorem dX7_init_329 : decode cX7_init 329 = .ok (.iastore, 1) := by decide +kernel
theorem dX7_init_330 : decode cX7_init 330 = .ok (.dup, 1) := by decide +kernel
theorem dX7_init_331 : decode cX7_init 331 = .ok (.iconst 3, 1) := by decide +kernel
theorem dX7_init_332 : decode cX7_init 332 = .ok (.bipush (-4), 2) := by decide +kernel
theorem dX7_init_334 : decode cX7_init 334 = .ok (.iastore, 1) := by decide +kernel
theorem dX7_init_335 : decode cX7_init 335 = .ok (.putfield 44, 3) := by decide +kernel
theorem dX7_init_338 : decode cX7_init 338 = .ok (.aload_n 0, 1) := by decide +kernel
theorem dX7_init_339 : decode cX7_init 339 = .ok (.iconst 4, 1) := by decide +kernel
theorem dX7_init_340 : decode cX7_init 340 = .ok (.newarray .int, 2) := by decide +kernel
theorem dX7_init_342 : decode cX7_init 342 = .ok (.putfield 47, 3) := by decide +kernel
theorem dX7_init_345 : decode cX7_init 345 = .ok (.aload_n 0, 1) := by decide +kernel
theorem dX7_init_346 : decode cX7_init 346 = .ok (.sipush 160, 3) := by decide +kernel
theorem dX7_init_349 : decode cX7_init 349 = .ok (.newarray .int, 2) := by decide +kernel
theorem dX7_init_351 : decode cX7_init 351 = .ok (.putfield 50, 3) := by decide +kernel
theorem dX7_init_354 : decode cX7_init 354 = .ok (.return_, 1) := by decide +kernel
theorem dX7_in_0 : decode cX7_in 0 = .ok (.lload_n 0, 1) := by decide +kernel
theorem dX7_in_1 : decode cX7_in 1 = .ok (.lload_n 2, 1) := by decide +kernel
theorem dX7_in_2 : decode cX7_in 2 = .ok (.lcmp, 1) := by decide +kernel
theorem dX7_in_3 : decode cX7_in 3 = .ok (.ifCond .lt 14, 3) := by decide +kernel
theorem dX7_in_6 : decode cX7_in 6 = .ok (.lload_n 0, 1) := by decide +kernel
theorem dX7_in_7 : decode cX7_in 7 = .ok (.lload 4, 2) := by decide +kernel
theorem dX7_in_9 : decode cX7_in 9 = .ok (.lcmp, 1) := by decide +kernel
theorem dX7_in_10 : decode cX7_in 10 = .ok (.ifCond .gt 7, 3) := by decide +kernel
theorem dX7_in_13 : decode cX7_in 13 = .ok (.iconst 1, 1) := by decide +kernel
theorem dX7_in_14 : decode cX7_in 14 = .ok (.goto 4, 3) := by decide +kernel
theorem dX7_in_17 : decode cX7_in 17 = .ok (.iconst 0, 1) := by decide +kernel
theorem dX7_in_18 : decode cX7_in 18 = .ok (.ireturn, 1) := by decide +kernel
theorem dX7_feed_0 : decode cX7_feed 0 = .ok (.iload_n 1, 1) := by decide +kernel
theorem dX7_feed_1 : decode cX7_feed 1 = .ok (.i2l, 1) := by decide +kernel
theorem dX7_feed_2 : decode cX7_feed 2 = .ok (.lconst 0, 1) := by decide +kernel
theorem dX7_feed_3 : decode cX7_feed 3 = .ok (.ldc2_w 53, 3) := by decide +kernel
theorem dX7_feed_6 : decode cX7_feed 6 = .ok (.invokestatic 55, 3) := by decide +kernel
theorem dX7_feed_9 : decode cX7_feed 9 = .ok (.ifCond .ne 5, 3) := by decide +kernel
theorem dX7_feed_12 : decode cX7_feed 12 = .ok (.iconst (-1), 1) := by decide +kernel
theorem dX7_feed_13 : decode cX7_feed 13 = .ok (.ireturn, 1) := by decide +kernel
theorem dX7_feed_14 : decode cX7_feed 14 = .ok (.aload_n 0, 1) := by decide +kernel
theorem dX7_feed_15 : decode cX7_feed 15 = .ok (.getfield 59, 3) := by decide +kernel
theorem dX7_feed_18 : decode cX7_feed 18 = .ok (.sipush 160, 3) := by decide +kernel
theorem dX7_feed_21 : decode cX7_feed 21 = .ok (.if_icmp .ne 6, 3) := by decide +kernel
theorem dX7_feed_24 : decode cX7_feed 24 = .ok (.bipush (-3), 2) := by decide +kernel
theorem dX7_feed_26 : decode cX7_feed 26 = .ok (.ireturn, 1) := by decide +kernel
theorem dX7_feed_27 : decode cX7_feed 27 = .ok (.aload_n 0, 1) := by decide +kernel
theorem dX7_feed_28 : decode cX7_feed 28 = .ok (.getfield 16, 3) := by decide +kernel
theorem dX7_feed_31 : decode cX7_feed 31 = .ok (.aload_n 0, 1) := by decide +kernel
theorem dX7_feed_32 : decode cX7_feed 32 = .ok (.getfield 59, 3) := by decide +kernel
theorem dX7_feed_35 : decode cX7_feed 35 = .ok (.iload_n 1, 1) := by decide +kernel
theorem dX7_feed_36 : decode cX7_feed 36 = .ok (.iastore, 1) := by decide +kernel
theorem dX7_feed_37 : decode cX7_feed 37 = .ok (.aload_n 0, 1) := by decide +kernel
theorem dX7_feed_38 : decode cX7_feed 38 = .ok (.dup, 1) := by decide +kernel
theorem dX7_feed_39 : decode cX7_feed 39 = .ok (.getfield 59, 3) := by decide +kernel
theorem dX7_feed_42 : decode cX7_feed 42 = .ok (.iconst 1, 1) := by decide +kernel
theorem dX7_feed_43 : decode cX7_feed 43 = .ok (.iadd, 1) := by decide +kernel
theorem dX7_feed_44 : decode cX7_feed 44 = .ok (.putfield 59, 3) := by decide +kernel
theorem dX7_feed_47 : decode cX7_feed 47 = .ok (.aload_n 0, 1) := by decide +kernel
theorem dX7_feed_48 : decode cX7_feed 48 = .ok (.getfield 59, 3) := by decide +kernel
theorem dX7_feed_51 : decode cX7_feed 51 = .ok (.ireturn, 1) := by decide +kernel
theorem dX7_end_0 : decode cX7_end 0 = .ok (.iload_n 1, 1) := by decide +kernel
theorem dX7_end_1 : decode cX7_end 1 = .ok (.i2l, 1) := by decide +kernel
theorem dX7_end_2 : decode cX7_end 2 = .ok (.lconst 0, 1) := by decide +kernel
theorem dX7_end_3 : decode cX7_end 3 = .ok (.aload_n 0, 1) := by decide +kernel
theorem dX7_end_4 : decode cX7_end 4 = .ok (.getfield 59, 3) := by decide +kernel
theorem dX7_end_7 : decode cX7_end 7 = .ok (.i2l, 1) := by decide +kernel
theorem dX7_end_8 : decode cX7_end 8 = .ok (.invokestatic 55, 3) := by decide +kernel
theorem dX7_end_11 : decode cX7_end 11 = .ok (.ifCond .ne 5, 3) := by decide +kernel
theorem dX7_end_14 : decode cX7_end 14 = .ok (.iconst (-1), 1) := by decide +kernel
theorem dX7_end_15 : decode cX7_end 15 = .ok (.ireturn, 1) := by decide +kernel
theorem dX7_end_16 : decode cX7_end 16 = .ok (.aload_n 0, 1) := by decide +kernel
theorem dX7_end_17 : decode cX7_end 17 = .ok (.getfield 59, 3) := by decide +kernel
theorem dX7_end_20 : decode cX7_end 20 = .ok (.istore_n 2, 1) := by decide +kernel
theorem dX7_end_21 : decode cX7_end 21 = .ok (.aload_n 0, 1) := by decide +kernel
theorem dX7_end_22 : decode cX7_end 22 = .ok (.iload_n 1, 1) := by decide +kernel
theorem dX7_end_23 : decode cX7_end 23 = .ok (.putfield 59, 3) := by decide +kernel
theorem dX7_end_26 : decode cX7_end 26 = .ok (.iload_n 2, 1) := by decide +kernel
theorem dX7_end_27 : decode cX7_end 27 = .ok (.ireturn, 1) := by decide +kernel
theorem dX7_byteAt_0 : decode cX7_byteAt 0 = .ok (.iload_n 1, 1) := by decide +kernel
theorem dX7_byteAt_1 : decode cX7_byteAt 1 = .ok (.aload_n 0, 1) := by decide +kernel
theorem dX7_byteAt_2 : decode cX7_byteAt 2 = .ok (.getfield 59, 3) := by decide +kernel
theorem dX7_byteAt_5 : decode cX7_byteAt 5 = .ok (.if_icmp .ge 12, 3) := by decide +kernel
theorem dX7_byteAt_8 : decode cX7_byteAt 8 = .ok (.aload_n 0, 1) := by decide +kernel
theorem dX7_byteAt_9 : decode cX7_byteAt 9 = .ok (.getfield 16, 3) := by decide +kernel
theorem dX7_byteAt_12 : decode cX7_byteAt 12 = .ok (.iload_n 1, 1) := by decide +kernel
theorem dX7_byteAt_13 : decode cX7_byteAt 13 = .ok (.iaload, 1) := by decide +kernel
theorem dX7_byteAt_14 : decode cX7_byteAt 14 = .ok (.goto 5, 3) := by decide +kernel
theorem dX7_byteAt_17 : decode cX7_byteAt 17 = .ok (.bipush (-4), 2) := by decide +kernel
theorem dX7_byteAt_19 : decode cX7_byteAt 19 = .ok (.ireturn, 1) := by decide +kernel
theorem dX7_fails_0 : decode cX7_fails 0 = .ok (.aload_n 0, 1) := by decide +kernel
theorem dX7_fails_1 : decode cX7_fails 1 = .ok (.getfield 63, 3) := by decide +kernel
theorem dX7_fails_4 : decode cX7_fails 4 = .ok (.ifCond .ne 16, 3) := by decide +kernel
theorem dX7_fails_7 : decode cX7_fails 7 = .ok (.aload_n 0, 1) := by decide +kernel
theorem dX7_fails_8 : decode cX7_fails 8 = .ok (.iload_n 1, 1) := by decide +kernel
theorem dX7_fails_9 : decode cX7_fails 9 = .ok (.putfield 63, 3) := by decide +kernel
theorem dX7_fails_12 : decode cX7_fails 12 = .ok (.aload_n 0, 1) := by decide +kernel
theorem dX7_fails_13 : decode cX7_fails 13 = .ok (.aload_n 0, 1) := by decide +kernel
theorem dX7_fails_14 : decode cX7_fails 14 = .ok (.getfield 66, 3) := by decide +kernel
theorem dX7_fails_17 : decode cX7_fails 17 = .ok (.putfield 69, 3) := by decide +kernel
theorem dX7_fails_20 : decode cX7_fails 20 = .ok (.return_, 1) := by decide +kernel
theorem dX7_nameHere_0 : decode cX7_nameHere 0 = .ok (.iconst 0, 1) := by decide +kernel
theorem dX7_nameHere_1 : decode cX7_nameHere 1 = .ok (.istore_n 1, 1) := by decide +kernel
theorem dX7_nameHere_2 : decode cX7_nameHere 2 = .ok (.iload_n 1, 1) := by decide +kernel
theorem dX7_nameHere_3 : decode cX7_nameHere 3 = .ok (.bipush 6, 2) := by decide +kernel
theorem dX7_nameHere_5 : decode cX7_nameHere 5 = .ok (.if_icmp .ge 113, 3) := by decide +kernel
theorem dX7_nameHere_8 : decode cX7_nameHere 8 = .ok (.aload_n 0, 1) := by decide +kernel
theorem dX7_nameHere_9 : decode cX7_nameHere 9 = .ok (.getfield 72, 3) := by decide +kernel
theorem dX7_nameHere_12 : decode cX7_nameHere 12 = .ok (.iconst 1, 1) := by decide +kernel
theorem dX7_nameHere_13 : decode cX7_nameHere 13 = .ok (.if_icmp .ne 105, 3) := by decide +kernel
theorem dX7_nameHere_16 : decode cX7_nameHere 16 = .ok (.aload_n 0, 1) := by decide +kernel
theorem dX7_nameHere_17 : decode cX7_nameHere 17 = .ok (.getfield 75, 3) := by decide +kernel
theorem dX7_nameHere_20 : decode cX7_nameHere 20 = .ok (.aload_n 0, 1) := by decide +kernel
theorem dX7_nameHere_21 : decode cX7_nameHere 21 = .ok (.getfield 66, 3) := by decide +kernel
theorem dX7_nameHere_24 : decode cX7_nameHere 24 = .ok (.isub, 1) := by decide +kernel
theorem dX7_nameHere_25 : decode cX7_nameHere 25 = .ok (.aload_n 0, 1) := by decide +kernel
theorem dX7_nameHere_26 : decode cX7_nameHere 26 = .ok (.getfield 19, 3) := by decide +kernel
theorem dX7_nameHere_29 : decode cX7_nameHere 29 = .ok (.iload_n 1, 1) := by decide +kernel
theorem dX7_nameHere_30 : decode cX7_nameHere 30 = .ok (.iconst 1, 1) := by decide +kernel
theorem dX7_nameHere_31 : decode cX7_nameHere 31 = .ok (.iadd, 1) := by decide +kernel
theorem dX7_nameHere_32 : decode cX7_nameHere 32 = .ok (.iaload, 1) := by decide +kernel
theorem dX7_nameHere_33 : decode cX7_nameHere 33 = .ok (.aload_n 0, 1) := by decide +kernel
theorem dX7_nameHere_34 : decode cX7_nameHere 34 = .ok (.getfield 19, 3) := by decide +kernel
theorem dX7_nameHere_37 : decode cX7_nameHere 37 = .ok (.iload_n 1, 1) := by decide +kernel
theorem dX7_nameHere_38 : decode cX7_nameHere 38 = .ok (.iaload, 1) := by decide +kernel
theorem dX7_nameHere_39 : decode cX7_nameHere 39 = .ok (.isub, 1) := by decide +kernel
theorem dX7_nameHere_40 : decode cX7_nameHere 40 = .ok (.if_icmp .ne 7, 3) := by decide +kernel
theorem dX7_nameHere_43 : decode cX7_nameHere 43 = .ok (.iconst 1, 1) := by decide +kernel
theorem dX7_nameHere_44 : decode cX7_nameHere 44 = .ok (.goto 4, 3) := by decide +kernel
theorem dX7_nameHere_47 : decode cX7_nameHere 47 = .ok (.iconst 0, 1) := by decide +kernel
theorem dX7_nameHere_48 : decode cX7_nameHere 48 = .ok (.istore_n 2, 1) := by decide +kernel
theorem dX7_nameHere_49 : decode cX7_nameHere 49 = .ok (.iconst 0, 1) := by decide +kernel
theorem dX7_nameHere_50 : decode cX7_nameHere 50 = .ok (.istore_n 3, 1) := by decide +kernel
theorem dX7_nameHere_51 : decode cX7_nameHere 51 = .ok (.iload_n 2, 1) := by decide +kernel
theorem dX7_nameHere_52 : decode cX7_nameHere 52 = .ok (.ifCond .eq 54, 3) := by decide +kernel
theorem dX7_nameHere_55 : decode cX7_nameHere 55 = .ok (.iload_n 3, 1) := by decide +kernel
theorem dX7_nameHere_56 : decode cX7_nameHere 56 = .ok (.aload_n 0, 1) := by decide +kernel
theorem dX7_nameHere_57 : decode cX7_nameHere 57 = .ok (.getfield 75, 3) := by decide +kernel
theorem dX7_nameHere_60 : decode cX7_nameHere 60 = .ok (.aload_n 0, 1) := by decide +kernel
theorem dX7_nameHere_61 : decode cX7_nameHere 61 = .ok (.getfield 66, 3) := by decide +kernel
theorem dX7_nameHere_64 : decode cX7_nameHere 64 = .ok (.isub, 1) := by decide +kernel
theorem dX7_nameHere_65 : decode cX7_nameHere 65 = .ok (.if_icmp .ge 41, 3) := by decide +kernel
theorem dX7_nameHere_68 : decode cX7_nameHere 68 = .ok (.aload_n 0, 1) := by decide +kernel
theorem dX7_nameHere_69 : decode cX7_nameHere 69 = .ok (.aload_n 0, 1) := by decide +kernel
theorem dX7_nameHere_70 : decode cX7_nameHere 70 = .ok (.getfield 66, 3) := by decide +kernel
theorem dX7_nameHere_73 : decode cX7_nameHere 73 = .ok (.iload_n 3, 1) := by decide +kernel
theorem dX7_nameHere_74 : decode cX7_nameHere 74 = .ok (.iadd, 1) := by decide +kernel
theorem dX7_nameHere_75 : decode cX7_nameHere 75 = .ok (.invokevirtual 78, 3) := by decide +kernel
theorem dX7_nameHere_78 : decode cX7_nameHere 78 = .ok (.aload_n 0, 1) := by decide +kernel
theorem dX7_nameHere_79 : decode cX7_nameHere 79 = .ok (.getfield 22, 3) := by decide +kernel
theorem dX7_nameHere_82 : decode cX7_nameHere 82 = .ok (.aload_n 0, 1) := by decide +kernel
theorem dX7_nameHere_83 : decode cX7_nameHere 83 = .ok (.getfield 19, 3) := by decide +kernel
theorem dX7_nameHere_86 : decode cX7_nameHere 86 = .ok (.iload_n 1, 1) := by decide +kernel
theorem dX7_nameHere_87 : decode cX7_nameHere 87 = .ok (.iaload, 1) := by decide +kernel
theorem dX7_nameHere_88 : decode cX7_nameHere 88 = .ok (.iload_n 3, 1) := by decide +kernel
theorem dX7_nameHere_89 : decode cX7_nameHere 89 = .ok (.iadd, 1) := by decide +kernel
theorem dX7_nameHere_90 : decode cX7_nameHere 90 = .ok (.iaload, 1) := by decide +kernel
theorem dX7_nameHere_91 : decode cX7_nameHere 91 = .ok (.if_icmp .ne 7, 3) := by decide +kernel
theorem dX7_nameHere_94 : decode cX7_nameHere 94 = .ok (.iconst 1, 1) := by decide +kernel
theorem dX7_nameHere_95 : decode cX7_nameHere 95 = .ok (.goto 4, 3) := by decide +kernel
theorem dX7_nameHere_98 : decode cX7_nameHere 98 = .ok (.iconst 0, 1) := by decide +kernel
theorem dX7_nameHere_99 : decode cX7_nameHere 99 = .ok (.istore_n 2, 1) := by decide +kernel
theorem dX7_nameHere_100 : decode cX7_nameHere 100 = .ok (.iinc 3 1, 3) := by decide +kernel
theorem dX7_nameHere_103 : decode cX7_nameHere 103 = .ok (.goto (-52), 3) := by decide +kernel
theorem dX7_nameHere_106 : decode cX7_nameHere 106 = .ok (.iload_n 2, 1) := by decide +kernel
theorem dX7_nameHere_107 : decode cX7_nameHere 107 = .ok (.ifCond .eq 5, 3) := by decide +kernel
theorem dX7_nameHere_110 : decode cX7_nameHere 110 = .ok (.iload_n 1, 1) := by decide +kernel
theorem dX7_nameHere_111 : decode cX7_nameHere 111 = .ok (.ireturn, 1) := by decide +kernel
theorem dX7_nameHere_112 : decode cX7_nameHere 112 = .ok (.iinc 1 1, 3) := by decide +kernel
theorem dX7_nameHere_115 : decode cX7_nameHere 115 = .ok (.goto (-113), 3) := by decide +kernel
theorem dX7_nameHere_118 : decode cX7_nameHere 118 = .ok (.bipush (-4), 2) := by decide +kernel
theorem dX7_nameHere_120 : decode cX7_nameHere 120 = .ok (.ireturn, 1) := by decide +kernel
theorem dX7_step_0 : decode cX7_step 0 = .ok (.aload_n 0, 1) := by decide +kernel
theorem dX7_step_1 : decode cX7_step 1 = .ok (.getfield 63, 3) := by decide +kernel
theorem dX7_step_4 : decode cX7_step 4 = .ok (.ifCond .le 4, 3) := by decide +kernel
theorem dX7_step_7 : decode cX7_step 7 = .ok (.return_, 1) := by decide +kernel
theorem dX7_step_8 : decode cX7_step 8 = .ok (.aload_n 0, 1) := by decide +kernel
theorem dX7_step_9 : decode cX7_step 9 = .ok (.aload_n 0, 1) := by decide +kernel
theorem dX7_step_10 : decode cX7_step 10 = .ok (.getfield 75, 3) := by decide +kernel
theorem dX7_step_13 : decode cX7_step 13 = .ok (.invokevirtual 78, 3) := by decide +kernel
theorem dX7_step_16 : decode cX7_step 16 = .ok (.bipush 32, 2) := by decide +kernel
theorem dX7_step_18 : decode cX7_step 18 = .ok (.if_icmp .ne 16, 3) := by decide +kernel
theorem dX7_step_21 : decode cX7_step 21 = .ok (.aload_n 0, 1) := by decide +kernel
theorem dX7_step_22 : decode cX7_step 22 = .ok (.dup, 1) := by decide +kernel
theorem dX7_step_23 : decode cX7_step 23 = .ok (.getfield 75, 3) := by decide +kernel
theorem dX7_step_26 : decode cX7_step 26 = .ok (.iconst 1, 1) := by decide +kernel
theorem dX7_step_27 : decode cX7_step 27 = .ok (.iadd, 1) := by decide +kernel
theorem dX7_step_28 : decode cX7_step 28 = .ok (.putfield 75, 3) := by decide +kernel
theorem dX7_step_31 : decode cX7_step 31 = .ok (.goto (-23), 3) := by decide +kernel
theorem dX7_step_34 : decode cX7_step 34 = .ok (.aload_n 0, 1) := by decide +kernel
theorem dX7_step_35 : decode cX7_step 35 = .ok (.aload_n 0, 1) := by decide +kernel
theorem dX7_step_36 : decode cX7_step 36 = .ok (.getfield 75, 3) := by decide +kernel
theorem dX7_step_39 : decode cX7_step 39 = .ok (.putfield 66, 3) := by decide +kernel
theorem dX7_step_42 : decode cX7_step 42 = .ok (.aload_n 0, 1) := by decide +kernel
theorem dX7_step_43 : decode cX7_step 43 = .ok (.aload_n 0, 1) := by decide +kernel
theorem dX7_step_44 : decode cX7_step 44 = .ok (.getfield 75, 3) := by decide +kernel
theorem dX7_step_47 : decode cX7_step 47 = .ok (.invokevirtual 78, 3) := by decide +kernel
theorem dX7_step_50 : decode cX7_step 50 = .ok (.istore_n 1, 1) := by decide +kernel
theorem dX7_step_51 : decode cX7_step 51 = .ok (.aload_n 0, 1) := by decide +kernel
theorem dX7_step_52 : decode cX7_step 52 = .ok (.iconst 0, 1) := by decide +kernel
theorem dX7_step_53 : decode cX7_step 53 = .ok (.putfield 82, 3) := by decide +kernel
theorem dX7_step_56 : decode cX7_step 56 = .ok (.iload_n 1, 1) := by decide +kernel
theorem dX7_step_57 : decode cX7_step 57 = .ok (.bipush (-4), 2) := by decide +kernel
theorem dX7_step_59 : decode cX7_step 59 = .ok (.if_icmp .ne 11, 3) := by decide +kernel
theorem dX7_step_62 : decode cX7_step 62 = .ok (.aload_n 0, 1) := by decide +kernel
theorem dX7_step_63 : decode cX7_step 63 = .ok (.iconst 0, 1) := by decide +kernel
theorem dX7_step_64 : decode cX7_step 64 = .ok (.putfield 72, 3) := by decide +kernel
theorem dX7_step_67 : decode cX7_step 67 = .ok (.goto 202, 3) := by decide +kernel
theorem dX7_step_70 : decode cX7_step 70 = .ok (.iload_n 1, 1) := by decide +kernel
theorem dX7_step_71 : decode cX7_step 71 = .ok (.i2l, 1) := by decide +kernel
theorem dX7_step_72 : decode cX7_step 72 = .ok (.ldc2_w 85, 3) := by decide +kernel
theorem dX7_step_75 : decode cX7_step 75 = .ok (.ldc2_w 87, 3) := by decide +kernel
theorem dX7_step_78 : decode cX7_step 78 = .ok (.invokestatic 55, 3) := by decide +kernel
theorem dX7_step_81 : decode cX7_step 81 = .ok (.ifCond .eq 45, 3) := by decide +kernel
theorem dX7_step_84 : decode cX7_step 84 = .ok (.aload_n 0, 1) := by decide +kernel
theorem dX7_step_85 : decode cX7_step 85 = .ok (.aload_n 0, 1) := by decide +kernel
theorem dX7_step_86 : decode cX7_step 86 = .ok (.getfield 75, 3) := by decide +kernel
theorem dX7_step_89 : decode cX7_step 89 = .ok (.invokevirtual 78, 3) := by decide +kernel
theorem dX7_step_92 : decode cX7_step 92 = .ok (.i2l, 1) := by decide +kernel
theorem dX7_step_93 : decode cX7_step 93 = .ok (.ldc2_w 85, 3) := by decide +kernel
theorem dX7_step_96 : decode cX7_step 96 = .ok (.ldc2_w 87, 3) := by decide +kernel
theorem dX7_step_99 : decode cX7_step 99 = .ok (.invokestatic 55, 3) := by decide +kernel
theorem dX7_step_102 : decode cX7_step 102 = .ok (.ifCond .eq 16, 3) := by decide +kernel
theorem dX7_step_105 : decode cX7_step 105 = .ok (.aload_n 0, 1) := by decide +kernel
theorem dX7_step_106 : decode cX7_step 106 = .ok (.dup, 1) := by decide +kernel
theorem dX7_step_107 : decode cX7_step 107 = .ok (.getfield 75, 3) := by decide +kernel
theorem dX7_step_110 : decode cX7_step 110 = .ok (.iconst 1, 1) := by decide +kernel
theorem dX7_step_111 : decode cX7_step 111 = .ok (.iadd, 1) := by decide +kernel
theorem dX7_step_112 : decode cX7_step 112 = .ok (.putfield 75, 3) := by decide +kernel
theorem dX7_step_115 : decode cX7_step 115 = .ok (.goto (-31), 3) := by decide +kernel
theorem dX7_step_118 : decode cX7_step 118 = .ok (.aload_n 0, 1) := by decide +kernel
theorem dX7_step_119 : decode cX7_step 119 = .ok (.iconst 1, 1) := by decide +kernel
theorem dX7_step_120 : decode cX7_step 120 = .ok (.putfield 72, 3) := by decide +kernel
theorem dX7_step_123 : decode cX7_step 123 = .ok (.goto 146, 3) := by decide +kernel
theorem dX7_step_126 : decode cX7_step 126 = .ok (.iload_n 1, 1) := by decide +kernel
theorem dX7_step_127 : decode cX7_step 127 = .ok (.i2l, 1) := by decide +kernel
theorem dX7_step_128 : decode cX7_step 128 = .ok (.ldc2_w 89, 3) := by decide +kernel
theorem dX7_step_131 : decode cX7_step 131 = .ok (.ldc2_w 91, 3) := by decide +kernel
theorem dX7_step_134 : decode cX7_step 134 = .ok (.invokestatic 55, 3) := by decide +kernel
theorem dX7_step_137 : decode cX7_step 137 = .ok (.ifCond .eq 106, 3) := by decide +kernel
theorem dX7_step_140 : decode cX7_step 140 = .ok (.aload_n 0, 1) := by decide +kernel
theorem dX7_step_141 : decode cX7_step 141 = .ok (.aload_n 0, 1) := by decide +kernel
theorem dX7_step_142 : decode cX7_step 142 = .ok (.getfield 75, 3) := by decide +kernel
theorem dX7_step_145 : decode cX7_step 145 = .ok (.invokevirtual 78, 3) := by decide +kernel
theorem dX7_step_148 : decode cX7_step 148 = .ok (.i2l, 1) := by decide +kernel
theorem dX7_step_149 : decode cX7_step 149 = .ok (.ldc2_w 89, 3) := by decide +kernel
theorem dX7_step_152 : decode cX7_step 152 = .ok (.ldc2_w 91, 3) := by decide +kernel
theorem dX7_step_155 : decode cX7_step 155 = .ok (.invokestatic 55, 3) := by decide +kernel
theorem dX7_step_158 : decode cX7_step 158 = .ok (.ifCond .eq 59, 3) := by decide +kernel
theorem dX7_step_161 : decode cX7_step 161 = .ok (.aload_n 0, 1) := by decide +kernel
theorem dX7_step_162 : decode cX7_step 162 = .ok (.aload_n 0, 1) := by decide +kernel
theorem dX7_step_163 : decode cX7_step 163 = .ok (.getfield 75, 3) := by decide +kernel
theorem dX7_step_166 : decode cX7_step 166 = .ok (.aload_n 0, 1) := by decide +kernel
theorem dX7_step_167 : decode cX7_step 167 = .ok (.getfield 66, 3) := by decide +kernel
theorem dX7_step_170 : decode cX7_step 170 = .ok (.isub, 1) := by decide +kernel
theorem dX7_step_171 : decode cX7_step 171 = .ok (.iconst 2, 1) := by decide +kernel
theorem dX7_step_172 : decode cX7_step 172 = .ok (.if_icmp .ge 25, 3) := by decide +kernel
theorem dX7_step_175 : decode cX7_step 175 = .ok (.bipush 10, 2) := by decide +kernel
theorem dX7_step_177 : decode cX7_step 177 = .ok (.aload_n 0, 1) := by decide +kernel
theorem dX7_step_178 : decode cX7_step 178 = .ok (.getfield 82, 3) := by decide +kernel
theorem dX7_step_181 : decode cX7_step 181 = .ok (.imul, 1) := by decide +kernel
theorem dX7_step_182 : decode cX7_step 182 = .ok (.aload_n 0, 1) := by decide +kernel
theorem dX7_step_183 : decode cX7_step 183 = .ok (.aload_n 0, 1) := by decide +kernel
theorem dX7_step_184 : decode cX7_step 184 = .ok (.getfield 75, 3) := by decide +kernel
theorem dX7_step_187 : decode cX7_step 187 = .ok (.invokevirtual 78, 3) := by decide +kernel
theorem dX7_step_190 : decode cX7_step 190 = .ok (.iadd, 1) := by decide +kernel
theorem dX7_step_191 : decode cX7_step 191 = .ok (.bipush 48, 2) := by decide +kernel
theorem dX7_step_193 : decode cX7_step 193 = .ok (.isub, 1) := by decide +kernel
theorem dX7_step_194 : decode cX7_step 194 = .ok (.goto 7, 3) := by decide +kernel
theorem dX7_step_197 : decode cX7_step 197 = .ok (.aload_n 0, 1) := by decide +kernel
theorem dX7_step_198 : decode cX7_step 198 = .ok (.getfield 82, 3) := by decide +kernel
theorem dX7_step_201 : decode cX7_step 201 = .ok (.putfield 82, 3) := by decide +kernel
theorem dX7_step_204 : decode cX7_step 204 = .ok (.aload_n 0, 1) := by decide +kernel
theorem dX7_step_205 : decode cX7_step 205 = .ok (.dup, 1) := by decide +kernel
theorem dX7_step_206 : decode cX7_step 206 = .ok (.getfield 75, 3) := by decide +kernel
theorem dX7_step_209 : decode cX7_step 209 = .ok (.iconst 1, 1) := by decide +kernel
theorem dX7_step_210 : decode cX7_step 210 = .ok (.iadd, 1) := by decide +kernel
theorem dX7_step_211 : decode cX7_step 211 = .ok (.putfield 75, 3) := by decide +kernel
theorem dX7_step_214 : decode cX7_step 214 = .ok (.goto (-74), 3) := by decide +kernel
theorem dX7_step_217 : decode cX7_step 217 = .ok (.aload_n 0, 1) := by decide +kernel
theorem dX7_step_218 : decode cX7_step 218 = .ok (.iconst 2, 1) := by decide +kernel
theorem dX7_step_219 : decode cX7_step 219 = .ok (.putfield 72, 3) := by decide +kernel
theorem dX7_step_222 : decode cX7_step 222 = .ok (.aload_n 0, 1) := by decide +kernel
theorem dX7_step_223 : decode cX7_step 223 = .ok (.getfield 75, 3) := by decide +kernel
theorem dX7_step_226 : decode cX7_step 226 = .ok (.aload_n 0, 1) := by decide +kernel
theorem dX7_step_227 : decode cX7_step 227 = .ok (.getfield 66, 3) := by decide +kernel
theorem dX7_step_230 : decode cX7_step 230 = .ok (.isub, 1) := by decide +kernel
theorem dX7_step_231 : decode cX7_step 231 = .ok (.iconst 2, 1) := by decide +kernel
theorem dX7_step_232 : decode cX7_step 232 = .ok (.if_icmp .le 37, 3) := by decide +kernel
theorem dX7_step_235 : decode cX7_step 235 = .ok (.aload_n 0, 1) := by decide +kernel
theorem dX7_step_236 : decode cX7_step 236 = .ok (.iconst 1, 1) := by decide +kernel
theorem dX7_step_237 : decode cX7_step 237 = .ok (.invokevirtual 93, 3) := by decide +kernel
theorem dX7_step_240 : decode cX7_step 240 = .ok (.goto 29, 3) := by decide +kernel
theorem dX7_step_243 : decode cX7_step 243 = .ok (.aload_n 0, 1) := by decide +kernel
theorem dX7_step_244 : decode cX7_step 244 = .ok (.iconst 3, 1) := by decide +kernel
theorem dX7_step_245 : decode cX7_step 245 = .ok (.putfield 72, 3) := by decide +kernel
theorem dX7_step_248 : decode cX7_step 248 = .ok (.aload_n 0, 1) := by decide +kernel
theorem dX7_step_249 : decode cX7_step 249 = .ok (.dup, 1) := by decide +kernel
theorem dX7_step_250 : decode cX7_step 250 = .ok (.getfield 75, 3) := by decide +kernel
theorem dX7_step_253 : decode cX7_step 253 = .ok (.iconst 1, 1) := by decide +kernel
theorem dX7_step_254 : decode cX7_step 254 = .ok (.iadd, 1) := by decide +kernel
theorem dX7_step_255 : decode cX7_step 255 = .ok (.putfield 75, 3) := by decide +kernel
theorem dX7_step_258 : decode cX7_step 258 = .ok (.iload_n 1, 1) := by decide +kernel
theorem dX7_step_259 : decode cX7_step 259 = .ok (.bipush 59, 2) := by decide +kernel
theorem dX7_step_261 : decode cX7_step 261 = .ok (.if_icmp .eq 8, 3) := by decide +kernel
theorem dX7_step_264 : decode cX7_step 264 = .ok (.aload_n 0, 1) := by decide +kernel
theorem dX7_step_265 : decode cX7_step 265 = .ok (.iconst 1, 1) := by decide +kernel
theorem dX7_step_266 : decode cX7_step 266 = .ok (.invokevirtual 93, 3) := by decide +kernel
theorem dX7_step_269 : decode cX7_step 269 = .ok (.return_, 1) := by decide +kernel
theorem dX7_number_0 : decode cX7_number 0 = .ok (.aload_n 0, 1) := by decide +kernel
theorem dX7_number_1 : decode cX7_number 1 = .ok (.getfield 63, 3) := by decide +kernel
theorem dX7_number_4 : decode cX7_number 4 = .ok (.ifCond .ne 16, 3) := by decide +kernel
theorem dX7_number_7 : decode cX7_number 7 = .ok (.aload_n 0, 1) := by decide +kernel
theorem dX7_number_8 : decode cX7_number 8 = .ok (.getfield 72, 3) := by decide +kernel
theorem dX7_number_11 : decode cX7_number 11 = .ok (.iconst 2, 1) := by decide +kernel
theorem dX7_number_12 : decode cX7_number 12 = .ok (.if_icmp .eq 8, 3) := by decide +kernel
theorem dX7_number_15 : decode cX7_number 15 = .ok (.aload_n 0, 1) := by decide +kernel
theorem dX7_number_16 : decode cX7_number 16 = .ok (.iconst 2, 1) := by decide +kernel
theorem dX7_number_17 : decode cX7_number 17 = .ok (.invokevirtual 93, 3) := by decide +kernel
theorem dX7_number_20 : decode cX7_number 20 = .ok (.aload_n 0, 1) := by decide +kernel
theorem dX7_number_21 : decode cX7_number 21 = .ok (.getfield 63, 3) := by decide +kernel
theorem dX7_number_24 : decode cX7_number 24 = .ok (.ifCond .ne 23, 3) := by decide +kernel
theorem dX7_number_27 : decode cX7_number 27 = .ok (.aload_n 0, 1) := by decide +kernel
theorem dX7_number_28 : decode cX7_number 28 = .ok (.getfield 82, 3) := by decide +kernel
theorem dX7_number_31 : decode cX7_number 31 = .ok (.i2l, 1) := by decide +kernel
theorem dX7_number_32 : decode cX7_number 32 = .ok (.iload_n 1, 1) := by decide +kernel
theorem dX7_number_33 : decode cX7_number 33 = .ok (.i2l, 1) := by decide +kernel
theorem dX7_number_34 : decode cX7_number 34 = .ok (.iload_n 2, 1) := by decide +kernel
theorem dX7_number_35 : decode cX7_number 35 = .ok (.i2l, 1) := by decide +kernel
theorem dX7_number_36 : decode cX7_number 36 = .ok (.invokestatic 55, 3) := by decide +kernel
theorem dX7_number_39 : decode cX7_number 39 = .ok (.ifCond .ne 8, 3) := by decide +kernel
theorem dX7_number_42 : decode cX7_number 42 = .ok (.aload_n 0, 1) := by decide +kernel
theorem dX7_number_43 : decode cX7_number 43 = .ok (.iconst 3, 1) := by decide +kernel
theorem dX7_number_44 : decode cX7_number 44 = .ok (.invokevirtual 93, 3) := by decide +kernel
theorem dX7_number_47 : decode cX7_number 47 = .ok (.aload_n 0, 1) := by decide +kernel
theorem dX7_number_48 : decode cX7_number 48 = .ok (.getfield 63, 3) := by decide +kernel
theorem dX7_number_51 : decode cX7_number 51 = .ok (.ifCond .ne 10, 3) := by decide +kernel
theorem dX7_number_54 : decode cX7_number 54 = .ok (.aload_n 0, 1) := by decide +kernel
theorem dX7_number_55 : decode cX7_number 55 = .ok (.getfield 82, 3) := by decide +kernel
theorem dX7_number_58 : decode cX7_number 58 = .ok (.goto 4, 3) := by decide +kernel
theorem dX7_number_61 : decode cX7_number 61 = .ok (.iload_n 1, 1) := by decide +kernel
theorem dX7_number_62 : decode cX7_number 62 = .ok (.istore_n 3, 1) := by decide +kernel
theorem dX7_number_63 : decode cX7_number 63 = .ok (.aload_n 0, 1) := by decide +kernel
theorem dX7_number_64 : decode cX7_number 64 = .ok (.invokevirtual 97, 3) := by decide +kernel
theorem dX7_number_67 : decode cX7_number 67 = .ok (.iload_n 3, 1) := by decide +kernel
theorem dX7_number_68 : decode cX7_number 68 = .ok (.ireturn, 1) := by decide +kernel
theorem dX7_readColour_0 : decode cX7_readColour 0 = .ok (.aload_n 0, 1) := by decide +kernel
theorem dX7_readColour_1 : decode cX7_readColour 1 = .ok (.getfield 100, 3) := by decide +kernel
theorem dX7_readColour_4 : decode cX7_readColour 4 = .ok (.istore_n 2, 1) := by decide +kernel
theorem dX7_readColour_5 : decode cX7_readColour 5 = .ok (.aload_n 0, 1) := by decide +kernel
theorem dX7_readColour_6 : decode cX7_readColour 6 = .ok (.getfield 13, 3) := by decide +kernel
theorem dX7_readColour_9 : decode cX7_readColour 9 = .ok (.iload_n 2, 1) := by decide +kernel
theorem dX7_readColour_10 : decode cX7_readColour 10 = .ok (.iload_n 1, 1) := by decide +kernel
theorem dX7_readColour_11 : decode cX7_readColour 11 = .ok (.iastore, 1) := by decide +kernel
theorem dX7_readColour_12 : decode cX7_readColour 12 = .ok (.aload_n 0, 1) := by decide +kernel
theorem dX7_readColour_13 : decode cX7_readColour 13 = .ok (.getfield 13, 3) := by decide +kernel
theorem dX7_readColour_16 : decode cX7_readColour 16 = .ok (.iconst 5, 1) := by decide +kernel
theorem dX7_readColour_17 : decode cX7_readColour 17 = .ok (.iload_n 2, 1) := by decide +kernel
theorem dX7_readColour_18 : decode cX7_readColour 18 = .ok (.iadd, 1) := by decide +kernel
theorem dX7_readColour_19 : decode cX7_readColour 19 = .ok (.aload_n 0, 1) := by decide +kernel
theorem dX7_readColour_20 : decode cX7_readColour 20 = .ok (.iconst 0, 1) := by decide +kernel
theorem dX7_readColour_21 : decode cX7_readColour 21 = .ok (.bipush 9, 2) := by decide +kernel
theorem dX7_readColour_23 : decode cX7_readColour 23 = .ok (.invokevirtual 103, 3) := by decide +kernel
theorem dX7_readColour_26 : decode cX7_readColour 26 = .ok (.iastore, 1) := by decide +kernel
theorem dX7_readColour_27 : decode cX7_readColour 27 = .ok (.aload_n 0, 1) := by decide +kernel
theorem dX7_readColour_28 : decode cX7_readColour 28 = .ok (.getfield 13, 3) := by decide +kernel
theorem dX7_readColour_31 : decode cX7_readColour 31 = .ok (.bipush 10, 2) := by decide +kernel
theorem dX7_readColour_33 : decode cX7_readColour 33 = .ok (.iload_n 2, 1) := by decide +kernel
theorem dX7_readColour_34 : decode cX7_readColour 34 = .ok (.iadd, 1) := by decide +kernel
theorem dX7_readColour_35 : decode cX7_readColour 35 = .ok (.aload_n 0, 1) := by decide +kernel
theorem dX7_readColour_36 : decode cX7_readColour 36 = .ok (.iconst 0, 1) := by decide +kernel
theorem dX7_readColour_37 : decode cX7_readColour 37 = .ok (.bipush 9, 2) := by decide +kernel
theorem dX7_readColour_39 : decode cX7_readColour 39 = .ok (.invokevirtual 103, 3) := by decide +kernel
theorem dX7_readColour_42 : decode cX7_readColour 42 = .ok (.iastore, 1) := by decide +kernel
theorem dX7_readColour_43 : decode cX7_readColour 43 = .ok (.aload_n 0, 1) := by decide +kernel
theorem dX7_readColour_44 : decode cX7_readColour 44 = .ok (.getfield 13, 3) := by decide +kernel
theorem dX7_readColour_47 : decode cX7_readColour 47 = .ok (.bipush 15, 2) := by decide +kernel
theorem dX7_readColour_49 : decode cX7_readColour 49 = .ok (.iload_n 2, 1) := by decide +kernel
theorem dX7_readColour_50 : decode cX7_readColour 50 = .ok (.iadd, 1) := by decide +kernel
theorem dX7_readColour_51 : decode cX7_readColour 51 = .ok (.aload_n 0, 1) := by decide +kernel
theorem dX7_readColour_52 : decode cX7_readColour 52 = .ok (.iconst 0, 1) := by decide +kernel
theorem dX7_readColour_53 : decode cX7_readColour 53 = .ok (.bipush 9, 2) := by decide +kernel
theorem dX7_readColour_55 : decode cX7_readColour 55 = .ok (.invokevirtual 103, 3) := by decide +kernel
theorem dX7_readColour_58 : decode cX7_readColour 58 = .ok (.iastore, 1) := by decide +kernel
theorem dX7_readColour_59 : decode cX7_readColour 59 = .ok (.aload_n 0, 1) := by decide +kernel
theorem dX7_readColour_60 : decode cX7_readColour 60 = .ok (.getfield 13, 3) := by decide +kernel
theorem dX7_readColour_63 : decode cX7_readColour 63 = .ok (.bipush 20, 2) := by decide +kernel
theorem dX7_readColour_65 : decode cX7_readColour 65 = .ok (.iload_n 2, 1) := by decide +kernel
theorem dX7_readColour_66 : decode cX7_readColour 66 = .ok (.iadd, 1) := by decide +kernel
theorem dX7_readColour_67 : decode cX7_readColour 67 = .ok (.aload_n 0, 1) := by decide +kernel
theorem dX7_readColour_68 : decode cX7_readColour 68 = .ok (.iconst 0, 1) := by decide +kernel
theorem dX7_readColour_69 : decode cX7_readColour 69 = .ok (.bipush 99, 2) := by decide +kernel
theorem dX7_readColour_71 : decode cX7_readColour 71 = .ok (.invokevirtual 103, 3) := by decide +kernel
theorem dX7_readColour_74 : decode cX7_readColour 74 = .ok (.iastore, 1) := by decide +kernel
theorem dX7_readColour_75 : decode cX7_readColour 75 = .ok (.aload_n 0, 1) := by decide +kernel
theorem dX7_readColour_76 : decode cX7_readColour 76 = .ok (.dup, 1) := by decide +kernel
theorem dX7_readColour_77 : decode cX7_readColour 77 = .ok (.getfield 100, 3) := by decide +kernel
theorem dX7_readColour_80 : decode cX7_readColour 80 = .ok (.iconst 1, 1) := by decide +kernel
theorem dX7_readColour_81 : decode cX7_readColour 81 = .ok (.iadd, 1) := by decide +kernel
theorem dX7_readColour_82 : decode cX7_readColour 82 = .ok (.putfield 100, 3) := by decide +kernel
theorem dX7_readColour_85 : decode cX7_readColour 85 = .ok (.return_, 1) := by decide +kernel
theorem dX7_readLent_0 : decode cX7_readLent 0 = .ok (.aload_n 0, 1) := by decide +kernel
theorem dX7_readLent_1 : decode cX7_readLent 1 = .ok (.iconst 0, 1) := by decide +kernel
theorem dX7_readLent_2 : decode cX7_readLent 2 = .ok (.iconst 3, 1) := by decide +kernel
theorem dX7_readLent_3 : decode cX7_readLent 3 = .ok (.invokevirtual 103, 3) := by decide +kernel
theorem dX7_readLent_6 : decode cX7_readLent 6 = .ok (.istore_n 1, 1) := by decide +kernel
theorem dX7_readLent_7 : decode cX7_readLent 7 = .ok (.aload_n 0, 1) := by decide +kernel
theorem dX7_readLent_8 : decode cX7_readLent 8 = .ok (.iload_n 1, 1) := by decide +kernel
theorem dX7_readLent_9 : decode cX7_readLent 9 = .ok (.aload_n 0, 1) := by decide +kernel
theorem dX7_readLent_10 : decode cX7_readLent 10 = .ok (.getfield 107, 3) := by decide +kernel
theorem dX7_readLent_13 : decode cX7_readLent 13 = .ok (.if_icmp .le 7, 3) := by decide +kernel
theorem dX7_readLent_16 : decode cX7_readLent 16 = .ok (.iload_n 1, 1) := by decide +kernel
theorem dX7_readLent_17 : decode cX7_readLent 17 = .ok (.goto 7, 3) := by decide +kernel
theorem dX7_readLent_20 : decode cX7_readLent 20 = .ok (.aload_n 0, 1) := by decide +kernel
theorem dX7_readLent_21 : decode cX7_readLent 21 = .ok (.getfield 107, 3) := by decide +kernel
theorem dX7_readLent_24 : decode cX7_readLent 24 = .ok (.putfield 107, 3) := by decide +kernel
theorem dX7_readLent_27 : decode cX7_readLent 27 = .ok (.aload_n 0, 1) := by decide +kernel
theorem dX7_readLent_28 : decode cX7_readLent 28 = .ok (.getfield 63, 3) := by decide +kernel
theorem dX7_readLent_31 : decode cX7_readLent 31 = .ok (.ifCond .ne 50, 3) := by decide +kernel
theorem dX7_readLent_34 : decode cX7_readLent 34 = .ok (.aload_n 0, 1) := by decide +kernel
theorem dX7_readLent_35 : decode cX7_readLent 35 = .ok (.getfield 72, 3) := by decide +kernel
theorem dX7_readLent_38 : decode cX7_readLent 38 = .ok (.iconst 2, 1) := by decide +kernel
theorem dX7_readLent_39 : decode cX7_readLent 39 = .ok (.if_icmp .ne 42, 3) := by decide +kernel
theorem dX7_readLent_42 : decode cX7_readLent 42 = .ok (.aload_n 0, 1) := by decide +kernel
theorem dX7_readLent_43 : decode cX7_readLent 43 = .ok (.getfield 82, 3) := by decide +kernel
theorem dX7_readLent_46 : decode cX7_readLent 46 = .ok (.i2l, 1) := by decide +kernel
theorem dX7_readLent_47 : decode cX7_readLent 47 = .ok (.lconst 0, 1) := by decide +kernel
theorem dX7_readLent_48 : decode cX7_readLent 48 = .ok (.ldc2_w 110, 3) := by decide +kernel
theorem dX7_readLent_51 : decode cX7_readLent 51 = .ok (.invokestatic 55, 3) := by decide +kernel
theorem dX7_readLent_54 : decode cX7_readLent 54 = .ok (.ifCond .eq 27, 3) := by decide +kernel
theorem dX7_readLent_57 : decode cX7_readLent 57 = .ok (.aload_n 0, 1) := by decide +kernel
theorem dX7_readLent_58 : decode cX7_readLent 58 = .ok (.getfield 112, 3) := by decide +kernel
theorem dX7_readLent_61 : decode cX7_readLent 61 = .ok (.iconst 5, 1) := by decide +kernel
theorem dX7_readLent_62 : decode cX7_readLent 62 = .ok (.iload_n 1, 1) := by decide +kernel
theorem dX7_readLent_63 : decode cX7_readLent 63 = .ok (.imul, 1) := by decide +kernel
theorem dX7_readLent_64 : decode cX7_readLent 64 = .ok (.aload_n 0, 1) := by decide +kernel
theorem dX7_readLent_65 : decode cX7_readLent 65 = .ok (.getfield 82, 3) := by decide +kernel
theorem dX7_readLent_68 : decode cX7_readLent 68 = .ok (.iadd, 1) := by decide +kernel
theorem dX7_readLent_69 : decode cX7_readLent 69 = .ok (.ishr, 1) := by decide +kernel
theorem dX7_readLent_70 : decode cX7_readLent 70 = .ok (.iconst 1, 1) := by decide +kernel
theorem dX7_readLent_71 : decode cX7_readLent 71 = .ok (.iand, 1) := by decide +kernel
theorem dX7_readLent_72 : decode cX7_readLent 72 = .ok (.iconst 1, 1) := by decide +kernel
theorem dX7_readLent_73 : decode cX7_readLent 73 = .ok (.if_icmp .ne 8, 3) := by decide +kernel
theorem dX7_readLent_76 : decode cX7_readLent 76 = .ok (.aload_n 0, 1) := by decide +kernel
theorem dX7_readLent_77 : decode cX7_readLent 77 = .ok (.iconst 4, 1) := by decide +kernel
theorem dX7_readLent_78 : decode cX7_readLent 78 = .ok (.invokevirtual 93, 3) := by decide +kernel
theorem dX7_readLent_81 : decode cX7_readLent 81 = .ok (.aload_n 0, 1) := by decide +kernel
theorem dX7_readLent_82 : decode cX7_readLent 82 = .ok (.iconst 0, 1) := by decide +kernel
theorem dX7_readLent_83 : decode cX7_readLent 83 = .ok (.iconst 4, 1) := by decide +kernel
theorem dX7_readLent_84 : decode cX7_readLent 84 = .ok (.invokevirtual 103, 3) := by decide +kernel
theorem dX7_readLent_87 : decode cX7_readLent 87 = .ok (.istore_n 2, 1) := by decide +kernel
theorem dX7_readLent_88 : decode cX7_readLent 88 = .ok (.aload_n 0, 1) := by decide +kernel
theorem dX7_readLent_89 : decode cX7_readLent 89 = .ok (.iload_n 2, 1) := by decide +kernel
theorem dX7_readLent_90 : decode cX7_readLent 90 = .ok (.aload_n 0, 1) := by decide +kernel
theorem dX7_readLent_91 : decode cX7_readLent 91 = .ok (.getfield 115, 3) := by decide +kernel
theorem dX7_readLent_94 : decode cX7_readLent 94 = .ok (.if_icmp .le 7, 3) := by decide +kernel
theorem dX7_readLent_97 : decode cX7_readLent 97 = .ok (.iload_n 2, 1) := by decide +kernel
theorem dX7_readLent_98 : decode cX7_readLent 98 = .ok (.goto 7, 3) := by decide +kernel
theorem dX7_readLent_101 : decode cX7_readLent 101 = .ok (.aload_n 0, 1) := by decide +kernel
theorem dX7_readLent_102 : decode cX7_readLent 102 = .ok (.getfield 115, 3) := by decide +kernel
theorem dX7_readLent_105 : decode cX7_readLent 105 = .ok (.putfield 115, 3) := by decide +kernel
theorem dX7_readLent_108 : decode cX7_readLent 108 = .ok (.aload_n 0, 1) := by decide +kernel
theorem dX7_readLent_109 : decode cX7_readLent 109 = .ok (.dup, 1) := by decide +kernel
theorem dX7_readLent_110 : decode cX7_readLent 110 = .ok (.getfield 112, 3) := by decide +kernel
theorem dX7_readLent_113 : decode cX7_readLent 113 = .ok (.iconst 1, 1) := by decide +kernel
theorem dX7_readLent_114 : decode cX7_readLent 114 = .ok (.iconst 5, 1) := by decide +kernel
theorem dX7_readLent_115 : decode cX7_readLent 115 = .ok (.iload_n 1, 1) := by decide +kernel
theorem dX7_readLent_116 : decode cX7_readLent 116 = .ok (.imul, 1) := by decide +kernel
theorem dX7_readLent_117 : decode cX7_readLent 117 = .ok (.iload_n 2, 1) := by decide +kernel
theorem dX7_readLent_118 : decode cX7_readLent 118 = .ok (.iadd, 1) := by decide +kernel
theorem dX7_readLent_119 : decode cX7_readLent 119 = .ok (.ishl, 1) := by decide +kernel
theorem dX7_readLent_120 : decode cX7_readLent 120 = .ok (.ior, 1) := by decide +kernel
theorem dX7_readLent_121 : decode cX7_readLent 121 = .ok (.putfield 112, 3) := by decide +kernel
theorem dX7_readLent_124 : decode cX7_readLent 124 = .ok (.aload_n 0, 1) := by decide +kernel
theorem dX7_readLent_125 : decode cX7_readLent 125 = .ok (.getfield 13, 3) := by decide +kernel
theorem dX7_readLent_128 : decode cX7_readLent 128 = .ok (.bipush 33, 2) := by decide +kernel
theorem dX7_readLent_130 : decode cX7_readLent 130 = .ok (.iconst 5, 1) := by decide +kernel
theorem dX7_readLent_131 : decode cX7_readLent 131 = .ok (.iload_n 1, 1) := by decide +kernel
theorem dX7_readLent_132 : decode cX7_readLent 132 = .ok (.imul, 1) := by decide +kernel
theorem dX7_readLent_133 : decode cX7_readLent 133 = .ok (.iadd, 1) := by decide +kernel
theorem dX7_readLent_134 : decode cX7_readLent 134 = .ok (.iload_n 2, 1) := by decide +kernel
theorem dX7_readLent_135 : decode cX7_readLent 135 = .ok (.iadd, 1) := by decide +kernel
theorem dX7_readLent_136 : decode cX7_readLent 136 = .ok (.aload_n 0, 1) := by decide +kernel
theorem dX7_readLent_137 : decode cX7_readLent 137 = .ok (.iconst 0, 1) := by decide +kernel
theorem dX7_readLent_138 : decode cX7_readLent 138 = .ok (.bipush 99, 2) := by decide +kernel
theorem dX7_readLent_140 : decode cX7_readLent 140 = .ok (.invokevirtual 103, 3) := by decide +kernel
theorem dX7_readLent_143 : decode cX7_readLent 143 = .ok (.iastore, 1) := by decide +kernel
theorem dX7_readLent_144 : decode cX7_readLent 144 = .ok (.return_, 1) := by decide +kernel
theorem dX7_readMore_0 : decode cX7_readMore 0 = .ok (.iload_n 1, 1) := by decide +kernel
theorem dX7_readMore_1 : decode cX7_readMore 1 = .ok (.iconst 3, 1) := by decide +kernel
theorem dX7_readMore_2 : decode cX7_readMore 2 = .ok (.if_icmp .gt 11, 3) := by decide +kernel
theorem dX7_readMore_5 : decode cX7_readMore 5 = .ok (.aload_n 0, 1) := by decide +kernel
theorem dX7_readMore_6 : decode cX7_readMore 6 = .ok (.iload_n 1, 1) := by decide +kernel
theorem dX7_readMore_7 : decode cX7_readMore 7 = .ok (.invokevirtual 118, 3) := by decide +kernel
theorem dX7_readMore_10 : decode cX7_readMore 10 = .ok (.goto 63, 3) := by decide +kernel
theorem dX7_readMore_13 : decode cX7_readMore 13 = .ok (.iload_n 1, 1) := by decide +kernel
theorem dX7_readMore_14 : decode cX7_readMore 14 = .ok (.iconst 4, 1) := by decide +kernel
theorem dX7_readMore_15 : decode cX7_readMore 15 = .ok (.if_icmp .ne 54, 3) := by decide +kernel
theorem dX7_readMore_18 : decode cX7_readMore 18 = .ok (.aload_n 0, 1) := by decide +kernel
theorem dX7_readMore_19 : decode cX7_readMore 19 = .ok (.getfield 13, 3) := by decide +kernel
theorem dX7_readMore_22 : decode cX7_readMore 22 = .ok (.bipush 25, 2) := by decide +kernel
theorem dX7_readMore_24 : decode cX7_readMore 24 = .ok (.aload_n 0, 1) := by decide +kernel
theorem dX7_readMore_25 : decode cX7_readMore 25 = .ok (.getfield 121, 3) := by decide +kernel
theorem dX7_readMore_28 : decode cX7_readMore 28 = .ok (.iadd, 1) := by decide +kernel
theorem dX7_readMore_29 : decode cX7_readMore 29 = .ok (.aload_n 0, 1) := by decide +kernel
theorem dX7_readMore_30 : decode cX7_readMore 30 = .ok (.iconst 0, 1) := by decide +kernel
theorem dX7_readMore_31 : decode cX7_readMore 31 = .ok (.bipush 99, 2) := by decide +kernel
theorem dX7_readMore_33 : decode cX7_readMore 33 = .ok (.invokevirtual 103, 3) := by decide +kernel
theorem dX7_readMore_36 : decode cX7_readMore 36 = .ok (.iastore, 1) := by decide +kernel
theorem dX7_readMore_37 : decode cX7_readMore 37 = .ok (.aload_n 0, 1) := by decide +kernel
theorem dX7_readMore_38 : decode cX7_readMore 38 = .ok (.getfield 13, 3) := by decide +kernel
theorem dX7_readMore_41 : decode cX7_readMore 41 = .ok (.bipush 29, 2) := by decide +kernel
theorem dX7_readMore_43 : decode cX7_readMore 43 = .ok (.aload_n 0, 1) := by decide +kernel
theorem dX7_readMore_44 : decode cX7_readMore 44 = .ok (.getfield 121, 3) := by decide +kernel
theorem dX7_readMore_47 : decode cX7_readMore 47 = .ok (.iadd, 1) := by decide +kernel
theorem dX7_readMore_48 : decode cX7_readMore 48 = .ok (.aload_n 0, 1) := by decide +kernel
theorem dX7_readMore_49 : decode cX7_readMore 49 = .ok (.iconst 0, 1) := by decide +kernel
theorem dX7_readMore_50 : decode cX7_readMore 50 = .ok (.bipush 99, 2) := by decide +kernel
theorem dX7_readMore_52 : decode cX7_readMore 52 = .ok (.invokevirtual 103, 3) := by decide +kernel
theorem dX7_readMore_55 : decode cX7_readMore 55 = .ok (.iastore, 1) := by decide +kernel
theorem dX7_readMore_56 : decode cX7_readMore 56 = .ok (.aload_n 0, 1) := by decide +kernel
theorem dX7_readMore_57 : decode cX7_readMore 57 = .ok (.dup, 1) := by decide +kernel
theorem dX7_readMore_58 : decode cX7_readMore 58 = .ok (.getfield 121, 3) := by decide +kernel
theorem dX7_readMore_61 : decode cX7_readMore 61 = .ok (.iconst 1, 1) := by decide +kernel
theorem dX7_readMore_62 : decode cX7_readMore 62 = .ok (.iadd, 1) := by decide +kernel
theorem dX7_readMore_63 : decode cX7_readMore 63 = .ok (.putfield 121, 3) := by decide +kernel
theorem dX7_readMore_66 : decode cX7_readMore 66 = .ok (.goto 7, 3) := by decide +kernel
theorem dX7_readMore_69 : decode cX7_readMore 69 = .ok (.aload_n 0, 1) := by decide +kernel
theorem dX7_readMore_70 : decode cX7_readMore 70 = .ok (.invokevirtual 124, 3) := by decide +kernel
theorem dX7_readMore_73 : decode cX7_readMore 73 = .ok (.return_, 1) := by decide +kernel
theorem dX7_readLine_0 : decode cX7_readLine 0 = .ok (.aload_n 0, 1) := by decide +kernel
theorem dX7_readLine_1 : decode cX7_readLine 1 = .ok (.invokevirtual 127, 3) := by decide +kernel
theorem dX7_readLine_4 : decode cX7_readLine 4 = .ok (.istore_n 1, 1) := by decide +kernel
theorem dX7_readLine_5 : decode cX7_readLine 5 = .ok (.iload_n 1, 1) := by decide +kernel
theorem dX7_readLine_6 : decode cX7_readLine 6 = .ok (.i2l, 1) := by decide +kernel
theorem dX7_readLine_7 : decode cX7_readLine 7 = .ok (.lconst 0, 1) := by decide +kernel
theorem dX7_readLine_8 : decode cX7_readLine 8 = .ok (.ldc2_w 131, 3) := by decide +kernel
theorem dX7_readLine_11 : decode cX7_readLine 11 = .ok (.invokestatic 55, 3) := by decide +kernel
theorem dX7_readLine_14 : decode cX7_readLine 14 = .ok (.ifCond .ne 9, 3) := by decide +kernel
theorem dX7_readLine_17 : decode cX7_readLine 17 = .ok (.aload_n 0, 1) := by decide +kernel
theorem dX7_readLine_18 : decode cX7_readLine 18 = .ok (.iconst 2, 1) := by decide +kernel
theorem dX7_readLine_19 : decode cX7_readLine 19 = .ok (.invokevirtual 93, 3) := by decide +kernel
theorem dX7_readLine_22 : decode cX7_readLine 22 = .ok (.return_, 1) := by decide +kernel
theorem dX7_readLine_23 : decode cX7_readLine 23 = .ok (.iload_n 1, 1) := by decide +kernel
theorem dX7_readLine_24 : decode cX7_readLine 24 = .ok (.iconst 3, 1) := by decide +kernel
theorem dX7_readLine_25 : decode cX7_readLine 25 = .ok (.if_icmp .gt 11, 3) := by decide +kernel
theorem dX7_readLine_28 : decode cX7_readLine 28 = .ok (.aload_n 0, 1) := by decide +kernel
theorem dX7_readLine_29 : decode cX7_readLine 29 = .ok (.getfield 100, 3) := by decide +kernel
theorem dX7_readLine_32 : decode cX7_readLine 32 = .ok (.iconst 5, 1) := by decide +kernel
theorem dX7_readLine_33 : decode cX7_readLine 33 = .ok (.if_icmp .eq 16, 3) := by decide +kernel
theorem dX7_readLine_36 : decode cX7_readLine 36 = .ok (.iload_n 1, 1) := by decide +kernel
theorem dX7_readLine_37 : decode cX7_readLine 37 = .ok (.iconst 4, 1) := by decide +kernel
theorem dX7_readLine_38 : decode cX7_readLine 38 = .ok (.if_icmp .ne 16, 3) := by decide +kernel
theorem dX7_readLine_41 : decode cX7_readLine 41 = .ok (.aload_n 0, 1) := by decide +kernel
theorem dX7_readLine_42 : decode cX7_readLine 42 = .ok (.getfield 121, 3) := by decide +kernel
theorem dX7_readLine_45 : decode cX7_readLine 45 = .ok (.iconst 4, 1) := by decide +kernel
theorem dX7_readLine_46 : decode cX7_readLine 46 = .ok (.if_icmp .ne 8, 3) := by decide +kernel
theorem dX7_readLine_49 : decode cX7_readLine 49 = .ok (.aload_n 0, 1) := by decide +kernel
theorem dX7_readLine_50 : decode cX7_readLine 50 = .ok (.iconst 5, 1) := by decide +kernel
theorem dX7_readLine_51 : decode cX7_readLine 51 = .ok (.invokevirtual 93, 3) := by decide +kernel
theorem dX7_readLine_54 : decode cX7_readLine 54 = .ok (.aload_n 0, 1) := by decide +kernel
theorem dX7_readLine_55 : decode cX7_readLine 55 = .ok (.invokevirtual 97, 3) := by decide +kernel
theorem dX7_readLine_58 : decode cX7_readLine 58 = .ok (.aload_n 0, 1) := by decide +kernel
theorem dX7_readLine_59 : decode cX7_readLine 59 = .ok (.getfield 63, 3) := by decide +kernel
theorem dX7_readLine_62 : decode cX7_readLine 62 = .ok (.ifCond .le 4, 3) := by decide +kernel
theorem dX7_readLine_65 : decode cX7_readLine 65 = .ok (.return_, 1) := by decide +kernel
theorem dX7_readLine_66 : decode cX7_readLine 66 = .ok (.aload_n 0, 1) := by decide +kernel
theorem dX7_readLine_67 : decode cX7_readLine 67 = .ok (.iload_n 1, 1) := by decide +kernel
theorem dX7_readLine_68 : decode cX7_readLine 68 = .ok (.invokevirtual 133, 3) := by decide +kernel
theorem dX7_readLine_71 : decode cX7_readLine 71 = .ok (.aload_n 0, 1) := by decide +kernel
theorem dX7_readLine_72 : decode cX7_readLine 72 = .ok (.getfield 63, 3) := by decide +kernel
theorem dX7_readLine_75 : decode cX7_readLine 75 = .ok (.ifCond .ne 16, 3) := by decide +kernel
theorem dX7_readLine_78 : decode cX7_readLine 78 = .ok (.aload_n 0, 1) := by decide +kernel
theorem dX7_readLine_79 : decode cX7_readLine 79 = .ok (.getfield 72, 3) := by decide +kernel
theorem dX7_readLine_82 : decode cX7_readLine 82 = .ok (.iconst 3, 1) := by decide +kernel
theorem dX7_readLine_83 : decode cX7_readLine 83 = .ok (.if_icmp .eq 8, 3) := by decide +kernel
theorem dX7_readLine_86 : decode cX7_readLine 86 = .ok (.aload_n 0, 1) := by decide +kernel
theorem dX7_readLine_87 : decode cX7_readLine 87 = .ok (.iconst 2, 1) := by decide +kernel
theorem dX7_readLine_88 : decode cX7_readLine 88 = .ok (.invokevirtual 93, 3) := by decide +kernel
theorem dX7_readLine_91 : decode cX7_readLine 91 = .ok (.aload_n 0, 1) := by decide +kernel
theorem dX7_readLine_92 : decode cX7_readLine 92 = .ok (.invokevirtual 97, 3) := by decide +kernel
theorem dX7_readLine_95 : decode cX7_readLine 95 = .ok (.return_, 1) := by decide +kernel
theorem dX7_text_0 : decode cX7_text 0 = .ok (.aload_n 0, 1) := by decide +kernel
theorem dX7_text_1 : decode cX7_text 1 = .ok (.iconst 0, 1) := by decide +kernel
theorem dX7_text_2 : decode cX7_text 2 = .ok (.putfield 63, 3) := by decide +kernel
theorem dX7_text_5 : decode cX7_text 5 = .ok (.aload_n 0, 1) := by decide +kernel
theorem dX7_text_6 : decode cX7_text 6 = .ok (.iconst 0, 1) := by decide +kernel
theorem dX7_text_7 : decode cX7_text 7 = .ok (.putfield 75, 3) := by decide +kernel
theorem dX7_text_10 : decode cX7_text 10 = .ok (.aload_n 0, 1) := by decide +kernel
theorem dX7_text_11 : decode cX7_text 11 = .ok (.iconst 0, 1) := by decide +kernel
theorem dX7_text_12 : decode cX7_text 12 = .ok (.putfield 100, 3) := by decide +kernel
theorem dX7_text_15 : decode cX7_text 15 = .ok (.aload_n 0, 1) := by decide +kernel
theorem dX7_text_16 : decode cX7_text 16 = .ok (.iconst 0, 1) := by decide +kernel
theorem dX7_text_17 : decode cX7_text 17 = .ok (.putfield 121, 3) := by decide +kernel
theorem dX7_text_20 : decode cX7_text 20 = .ok (.aload_n 0, 1) := by decide +kernel
theorem dX7_text_21 : decode cX7_text 21 = .ok (.iconst 0, 1) := by decide +kernel
theorem dX7_text_22 : decode cX7_text 22 = .ok (.putfield 112, 3) := by decide +kernel
theorem dX7_text_25 : decode cX7_text 25 = .ok (.aload_n 0, 1) := by decide +kernel
theorem dX7_text_26 : decode cX7_text 26 = .ok (.iconst (-1), 1) := by decide +kernel
theorem dX7_text_27 : decode cX7_text 27 = .ok (.putfield 107, 3) := by decide +kernel
theorem dX7_text_30 : decode cX7_text 30 = .ok (.aload_n 0, 1) := by decide +kernel
theorem dX7_text_31 : decode cX7_text 31 = .ok (.iconst (-1), 1) := by decide +kernel
theorem dX7_text_32 : decode cX7_text 32 = .ok (.putfield 115, 3) := by decide +kernel
theorem dX7_text_35 : decode cX7_text 35 = .ok (.iconst 0, 1) := by decide +kernel
theorem dX7_text_36 : decode cX7_text 36 = .ok (.istore_n 1, 1) := by decide +kernel
theorem dX7_text_37 : decode cX7_text 37 = .ok (.iconst 0, 1) := by decide +kernel
theorem dX7_text_38 : decode cX7_text 38 = .ok (.istore_n 2, 1) := by decide +kernel
theorem dX7_text_39 : decode cX7_text 39 = .ok (.iload_n 2, 1) := by decide +kernel
theorem dX7_text_40 : decode cX7_text 40 = .ok (.bipush 55, 2) := by decide +kernel
theorem dX7_text_42 : decode cX7_text 42 = .ok (.if_icmp .ge 16, 3) := by decide +kernel
theorem dX7_text_45 : decode cX7_text 45 = .ok (.aload_n 0, 1) := by decide +kernel
theorem dX7_text_46 : decode cX7_text 46 = .ok (.getfield 13, 3) := by decide +kernel
theorem dX7_text_49 : decode cX7_text 49 = .ok (.iload_n 2, 1) := by decide +kernel
theorem dX7_text_50 : decode cX7_text 50 = .ok (.iconst 0, 1) := by decide +kernel
theorem dX7_text_51 : decode cX7_text 51 = .ok (.iastore, 1) := by decide +kernel
theorem dX7_text_52 : decode cX7_text 52 = .ok (.iinc 2 1, 3) := by decide +kernel
theorem dX7_text_55 : decode cX7_text 55 = .ok (.goto (-16), 3) := by decide +kernel
theorem dX7_text_58 : decode cX7_text 58 = .ok (.aload_n 0, 1) := by decide +kernel
theorem dX7_text_59 : decode cX7_text 59 = .ok (.invokevirtual 97, 3) := by decide +kernel
theorem dX7_text_62 : decode cX7_text 62 = .ok (.aload_n 0, 1) := by decide +kernel
theorem dX7_text_63 : decode cX7_text 63 = .ok (.getfield 63, 3) := by decide +kernel
theorem dX7_text_66 : decode cX7_text 66 = .ok (.ifCond .ne 20, 3) := by decide +kernel
theorem dX7_text_69 : decode cX7_text 69 = .ok (.aload_n 0, 1) := by decide +kernel
theorem dX7_text_70 : decode cX7_text 70 = .ok (.getfield 72, 3) := by decide +kernel
theorem dX7_text_73 : decode cX7_text 73 = .ok (.ifCond .eq 13, 3) := by decide +kernel
theorem dX7_text_76 : decode cX7_text 76 = .ok (.aload_n 0, 1) := by decide +kernel
theorem dX7_text_77 : decode cX7_text 77 = .ok (.invokevirtual 136, 3) := by decide +kernel
theorem dX7_text_80 : decode cX7_text 80 = .ok (.iinc 1 1, 3) := by decide +kernel
theorem dX7_text_83 : decode cX7_text 83 = .ok (.goto (-21), 3) := by decide +kernel
theorem dX7_text_86 : decode cX7_text 86 = .ok (.aload_n 0, 1) := by decide +kernel
theorem dX7_text_87 : decode cX7_text 87 = .ok (.getfield 63, 3) := by decide +kernel
theorem dX7_text_90 : decode cX7_text 90 = .ok (.ifCond .ne 31, 3) := by decide +kernel
theorem dX7_text_93 : decode cX7_text 93 = .ok (.aload_n 0, 1) := by decide +kernel
theorem dX7_text_94 : decode cX7_text 94 = .ok (.getfield 107, 3) := by decide +kernel
theorem dX7_text_97 : decode cX7_text 97 = .ok (.aload_n 0, 1) := by decide +kernel
theorem dX7_text_98 : decode cX7_text 98 = .ok (.getfield 121, 3) := by decide +kernel
theorem dX7_text_101 : decode cX7_text 101 = .ok (.if_icmp .ge 14, 3) := by decide +kernel
theorem dX7_text_104 : decode cX7_text 104 = .ok (.aload_n 0, 1) := by decide +kernel
theorem dX7_text_105 : decode cX7_text 105 = .ok (.getfield 115, 3) := by decide +kernel
theorem dX7_text_108 : decode cX7_text 108 = .ok (.aload_n 0, 1) := by decide +kernel
theorem dX7_text_109 : decode cX7_text 109 = .ok (.getfield 100, 3) := by decide +kernel
theorem dX7_text_112 : decode cX7_text 112 = .ok (.if_icmp .lt 9, 3) := by decide +kernel
theorem dX7_text_115 : decode cX7_text 115 = .ok (.aload_n 0, 1) := by decide +kernel
theorem dX7_text_116 : decode cX7_text 116 = .ok (.bipush 6, 2) := by decide +kernel
theorem dX7_text_118 : decode cX7_text 118 = .ok (.invokevirtual 93, 3) := by decide +kernel
theorem dX7_text_121 : decode cX7_text 121 = .ok (.aload_n 0, 1) := by decide +kernel
theorem dX7_text_122 : decode cX7_text 122 = .ok (.iconst 0, 1) := by decide +kernel
theorem dX7_text_123 : decode cX7_text 123 = .ok (.putfield 59, 3) := by decide +kernel
theorem dX7_text_126 : decode cX7_text 126 = .ok (.aload_n 0, 1) := by decide +kernel
theorem dX7_text_127 : decode cX7_text 127 = .ok (.aload_n 0, 1) := by decide +kernel
theorem dX7_text_128 : decode cX7_text 128 = .ok (.getfield 63, 3) := by decide +kernel
theorem dX7_text_131 : decode cX7_text 131 = .ok (.putfield 139, 3) := by decide +kernel
theorem dX7_text_134 : decode cX7_text 134 = .ok (.aload_n 0, 1) := by decide +kernel
theorem dX7_text_135 : decode cX7_text 135 = .ok (.getfield 63, 3) := by decide +kernel
theorem dX7_text_138 : decode cX7_text 138 = .ok (.ifCond .le 11, 3) := by decide +kernel
theorem dX7_text_141 : decode cX7_text 141 = .ok (.bipush (-10), 2) := by decide +kernel
theorem dX7_text_143 : decode cX7_text 143 = .ok (.aload_n 0, 1) := by decide +kernel
theorem dX7_text_144 : decode cX7_text 144 = .ok (.getfield 69, 3) := by decide +kernel
theorem dX7_text_147 : decode cX7_text 147 = .ok (.isub, 1) := by decide +kernel
theorem dX7_text_148 : decode cX7_text 148 = .ok (.ireturn, 1) := by decide +kernel
theorem dX7_text_149 : decode cX7_text 149 = .ok (.iconst 0, 1) := by decide +kernel
theorem dX7_text_150 : decode cX7_text 150 = .ok (.istore_n 2, 1) := by decide +kernel
theorem dX7_text_151 : decode cX7_text 151 = .ok (.iload_n 2, 1) := by decide +kernel
theorem dX7_text_152 : decode cX7_text 152 = .ok (.bipush 55, 2) := by decide +kernel
theorem dX7_text_154 : decode cX7_text 154 = .ok (.if_icmp .ge 21, 3) := by decide +kernel
theorem dX7_text_157 : decode cX7_text 157 = .ok (.aload_n 0, 1) := by decide +kernel
theorem dX7_text_158 : decode cX7_text 158 = .ok (.getfield 7, 3) := by decide +kernel
theorem dX7_text_161 : decode cX7_text 161 = .ok (.iload_n 2, 1) := by decide +kernel
theorem dX7_text_162 : decode cX7_text 162 = .ok (.aload_n 0, 1) := by decide +kernel
theorem dX7_text_163 : decode cX7_text 163 = .ok (.getfield 13, 3) := by decide +kernel
theorem dX7_text_166 : decode cX7_text 166 = .ok (.iload_n 2, 1) := by decide +kernel
theorem dX7_text_167 : decode cX7_text 167 = .ok (.iaload, 1) := by decide +kernel
theorem dX7_text_168 : decode cX7_text 168 = .ok (.iastore, 1) := by decide +kernel
theorem dX7_text_169 : decode cX7_text 169 = .ok (.iinc 2 1, 3) := by decide +kernel
theorem dX7_text_172 : decode cX7_text 172 = .ok (.goto (-21), 3) := by decide +kernel
theorem dX7_text_175 : decode cX7_text 175 = .ok (.aload_n 0, 1) := by decide +kernel
theorem dX7_text_176 : decode cX7_text 176 = .ok (.aload_n 0, 1) := by decide +kernel
theorem dX7_text_177 : decode cX7_text 177 = .ok (.getfield 100, 3) := by decide +kernel
theorem dX7_text_180 : decode cX7_text 180 = .ok (.putfield 142, 3) := by decide +kernel
theorem dX7_text_183 : decode cX7_text 183 = .ok (.aload_n 0, 1) := by decide +kernel
theorem dX7_text_184 : decode cX7_text 184 = .ok (.aload_n 0, 1) := by decide +kernel
theorem dX7_text_185 : decode cX7_text 185 = .ok (.getfield 121, 3) := by decide +kernel
theorem dX7_text_188 : decode cX7_text 188 = .ok (.putfield 145, 3) := by decide +kernel
theorem dX7_text_191 : decode cX7_text 191 = .ok (.aload_n 0, 1) := by decide +kernel
theorem dX7_text_192 : decode cX7_text 192 = .ok (.iconst 0, 1) := by decide +kernel
theorem dX7_text_193 : decode cX7_text 193 = .ok (.putfield 148, 3) := by decide +kernel
theorem dX7_text_196 : decode cX7_text 196 = .ok (.aload_n 0, 1) := by decide +kernel
theorem dX7_text_197 : decode cX7_text 197 = .ok (.getfield 40, 3) := by decide +kernel
theorem dX7_text_200 : decode cX7_text 200 = .ok (.iconst 0, 1) := by decide +kernel
theorem dX7_text_201 : decode cX7_text 201 = .ok (.iconst 0, 1) := by decide +kernel
theorem dX7_text_202 : decode cX7_text 202 = .ok (.bastore, 1) := by decide +kernel
theorem dX7_text_203 : decode cX7_text 203 = .ok (.aload_n 0, 1) := by decide +kernel
theorem dX7_text_204 : decode cX7_text 204 = .ok (.getfield 40, 3) := by decide +kernel
theorem dX7_text_207 : decode cX7_text 207 = .ok (.iconst 1, 1) := by decide +kernel
theorem dX7_text_208 : decode cX7_text 208 = .ok (.iconst 0, 1) := by decide +kernel
theorem dX7_text_209 : decode cX7_text 209 = .ok (.bastore, 1) := by decide +kernel
theorem dX7_text_210 : decode cX7_text 210 = .ok (.iload_n 1, 1) := by decide +kernel
theorem dX7_text_211 : decode cX7_text 211 = .ok (.ireturn, 1) := by decide +kernel
theorem dX7_fault_0 : decode cX7_fault 0 = .ok (.aload_n 0, 1) := by decide +kernel
theorem dX7_fault_1 : decode cX7_fault 1 = .ok (.getfield 139, 3) := by decide +kernel
theorem dX7_fault_4 : decode cX7_fault 4 = .ok (.ireturn, 1) := by decide +kernel
theorem dX7_isColour_0 : decode cX7_isColour 0 = .ok (.iload_n 1, 1) := by decide +kernel
theorem dX7_isColour_1 : decode cX7_isColour 1 = .ok (.i2l, 1) := by decide +kernel
theorem dX7_isColour_2 : decode cX7_isColour 2 = .ok (.lconst 0, 1) := by decide +kernel
theorem dX7_isColour_3 : decode cX7_isColour 3 = .ok (.aload_n 0, 1) := by decide +kernel
theorem dX7_isColour_4 : decode cX7_isColour 4 = .ok (.getfield 142, 3) := by decide +kernel
theorem dX7_isColour_7 : decode cX7_isColour 7 = .ok (.iconst 1, 1) := by decide +kernel
theorem dX7_isColour_8 : decode cX7_isColour 8 = .ok (.isub, 1) := by decide +kernel
theorem dX7_isColour_9 : decode cX7_isColour 9 = .ok (.i2l, 1) := by decide +kernel
theorem dX7_isColour_10 : decode cX7_isColour 10 = .ok (.invokestatic 55, 3) := by decide +kernel
theorem dX7_isColour_13 : decode cX7_isColour 13 = .ok (.ireturn, 1) := by decide +kernel
theorem dX7_isOne_0 : decode cX7_isOne 0 = .ok (.iload_n 1, 1) := by decide +kernel
theorem dX7_isOne_1 : decode cX7_isOne 1 = .ok (.i2l, 1) := by decide +kernel
theorem dX7_isOne_2 : decode cX7_isOne 2 = .ok (.lconst 0, 1) := by decide +kernel
theorem dX7_isOne_3 : decode cX7_isOne 3 = .ok (.aload_n 0, 1) := by decide +kernel
theorem dX7_isOne_4 : decode cX7_isOne 4 = .ok (.getfield 145, 3) := by decide +kernel
theorem dX7_isOne_7 : decode cX7_isOne 7 = .ok (.iconst 1, 1) := by decide +kernel
theorem dX7_isOne_8 : decode cX7_isOne 8 = .ok (.isub, 1) := by decide +kernel
theorem dX7_isOne_9 : decode cX7_isOne 9 = .ok (.i2l, 1) := by decide +kernel
theorem dX7_isOne_10 : decode cX7_isOne 10 = .ok (.invokestatic 55, 3) := by decide +kernel
theorem dX7_isOne_13 : decode cX7_isOne 13 = .ok (.ireturn, 1) := by decide +kernel
theorem dX7_rentOn_0 : decode cX7_rentOn 0 = .ok (.aload_n 0, 1) := by decide +kernel
theorem dX7_rentOn_1 : decode cX7_rentOn 1 = .ok (.getfield 7, 3) := by decide +kernel
theorem dX7_rentOn_4 : decode cX7_rentOn 4 = .ok (.iload_n 1, 1) := by decide +kernel
theorem dX7_rentOn_5 : decode cX7_rentOn 5 = .ok (.iload_n 2, 1) := by decide +kernel
theorem dX7_rentOn_6 : decode cX7_rentOn 6 = .ok (.iadd, 1) := by decide +kernel
theorem dX7_rentOn_7 : decode cX7_rentOn 7 = .ok (.iaload, 1) := by decide +kernel
theorem dX7_rentOn_8 : decode cX7_rentOn 8 = .ok (.istore_n 3, 1) := by decide +kernel
theorem dX7_rentOn_9 : decode cX7_rentOn 9 = .ok (.iload_n 3, 1) := by decide +kernel
theorem dX7_rentOn_10 : decode cX7_rentOn 10 = .ok (.ifCond .ne 7, 3) := by decide +kernel
theorem dX7_rentOn_13 : decode cX7_rentOn 13 = .ok (.iconst 2, 1) := by decide +kernel
theorem dX7_rentOn_14 : decode cX7_rentOn 14 = .ok (.goto 23, 3) := by decide +kernel
theorem dX7_rentOn_17 : decode cX7_rentOn 17 = .ok (.iload_n 3, 1) := by decide +kernel
theorem dX7_rentOn_18 : decode cX7_rentOn 18 = .ok (.iconst 1, 1) := by decide +kernel
theorem dX7_rentOn_19 : decode cX7_rentOn 19 = .ok (.if_icmp .ne 7, 3) := by decide +kernel
theorem dX7_rentOn_22 : decode cX7_rentOn 22 = .ok (.iconst 3, 1) := by decide +kernel
theorem dX7_rentOn_23 : decode cX7_rentOn 23 = .ok (.goto 14, 3) := by decide +kernel
theorem dX7_rentOn_26 : decode cX7_rentOn 26 = .ok (.iload_n 3, 1) := by decide +kernel
theorem dX7_rentOn_27 : decode cX7_rentOn 27 = .ok (.iconst 2, 1) := by decide +kernel
theorem dX7_rentOn_28 : decode cX7_rentOn 28 = .ok (.if_icmp .ne 8, 3) := by decide +kernel
theorem dX7_rentOn_31 : decode cX7_rentOn 31 = .ok (.bipush 6, 2) := by decide +kernel
theorem dX7_rentOn_33 : decode cX7_rentOn 33 = .ok (.goto 4, 3) := by decide +kernel
theorem dX7_rentOn_36 : decode cX7_rentOn 36 = .ok (.iconst 1, 1) := by decide +kernel
theorem dX7_rentOn_37 : decode cX7_rentOn 37 = .ok (.ireturn, 1) := by decide +kernel
theorem dX7_fadesOn_0 : decode cX7_fadesOn 0 = .ok (.aload_n 0, 1) := by decide +kernel
theorem dX7_fadesOn_1 : decode cX7_fadesOn 1 = .ok (.getfield 7, 3) := by decide +kernel
theorem dX7_fadesOn_4 : decode cX7_fadesOn 4 = .ok (.iload_n 1, 1) := by decide +kernel
theorem dX7_fadesOn_5 : decode cX7_fadesOn 5 = .ok (.iload_n 2, 1) := by decide +kernel
theorem dX7_fadesOn_6 : decode cX7_fadesOn 6 = .ok (.iadd, 1) := by decide +kernel
theorem dX7_fadesOn_7 : decode cX7_fadesOn 7 = .ok (.iaload, 1) := by decide +kernel
theorem dX7_fadesOn_8 : decode cX7_fadesOn 8 = .ok (.istore_n 3, 1) := by decide +kernel
theorem dX7_fadesOn_9 : decode cX7_fadesOn 9 = .ok (.iload_n 3, 1) := by decide +kernel
theorem dX7_fadesOn_10 : decode cX7_fadesOn 10 = .ok (.ifCond .ne 7, 3) := by decide +kernel
theorem dX7_fadesOn_13 : decode cX7_fadesOn 13 = .ok (.iconst 1, 1) := by decide +kernel
theorem dX7_fadesOn_14 : decode cX7_fadesOn 14 = .ok (.goto 13, 3) := by decide +kernel
theorem dX7_fadesOn_17 : decode cX7_fadesOn 17 = .ok (.iload_n 3, 1) := by decide +kernel
theorem dX7_fadesOn_18 : decode cX7_fadesOn 18 = .ok (.iconst 3, 1) := by decide +kernel
theorem dX7_fadesOn_19 : decode cX7_fadesOn 19 = .ok (.if_icmp .ne 7, 3) := by decide +kernel
theorem dX7_fadesOn_22 : decode cX7_fadesOn 22 = .ok (.iconst 3, 1) := by decide +kernel
theorem dX7_fadesOn_23 : decode cX7_fadesOn 23 = .ok (.goto 4, 3) := by decide +kernel
theorem dX7_fadesOn_26 : decode cX7_fadesOn 26 = .ok (.iconst 0, 1) := by decide +kernel
theorem dX7_fadesOn_27 : decode cX7_fadesOn 27 = .ok (.ireturn, 1) := by decide +kernel
theorem dX7_heldOn_0 : decode cX7_heldOn 0 = .ok (.iconst 0, 1) := by decide +kernel
theorem dX7_heldOn_1 : decode cX7_heldOn 1 = .ok (.istore_n 3, 1) := by decide +kernel
theorem dX7_heldOn_2 : decode cX7_heldOn 2 = .ok (.iconst 0, 1) := by decide +kernel
theorem dX7_heldOn_3 : decode cX7_heldOn 3 = .ok (.istore 4, 2) := by decide +kernel
theorem dX7_heldOn_5 : decode cX7_heldOn 5 = .ok (.iload 4, 2) := by decide +kernel
theorem dX7_heldOn_7 : decode cX7_heldOn 7 = .ok (.aload_n 0, 1) := by decide +kernel
theorem dX7_heldOn_8 : decode cX7_heldOn 8 = .ok (.getfield 142, 3) := by decide +kernel
theorem dX7_heldOn_11 : decode cX7_heldOn 11 = .ok (.if_icmp .ge 28, 3) := by decide +kernel
theorem dX7_heldOn_14 : decode cX7_heldOn 14 = .ok (.iload_n 3, 1) := by decide +kernel
theorem dX7_heldOn_15 : decode cX7_heldOn 15 = .ok (.aload_n 0, 1) := by decide +kernel
theorem dX7_heldOn_16 : decode cX7_heldOn 16 = .ok (.getfield 7, 3) := by decide +kernel
theorem dX7_heldOn_19 : decode cX7_heldOn 19 = .ok (.iload_n 1, 1) := by decide +kernel
theorem dX7_heldOn_20 : decode cX7_heldOn 20 = .ok (.bipush 33, 2) := by decide +kernel
theorem dX7_heldOn_22 : decode cX7_heldOn 22 = .ok (.iadd, 1) := by decide +kernel
theorem dX7_heldOn_23 : decode cX7_heldOn 23 = .ok (.iconst 5, 1) := by decide +kernel
theorem dX7_heldOn_24 : decode cX7_heldOn 24 = .ok (.iload_n 2, 1) := by decide +kernel
theorem dX7_heldOn_25 : decode cX7_heldOn 25 = .ok (.imul, 1) := by decide +kernel
theorem dX7_heldOn_26 : decode cX7_heldOn 26 = .ok (.iadd, 1) := by decide +kernel
theorem dX7_heldOn_27 : decode cX7_heldOn 27 = .ok (.iload 4, 2) := by decide +kernel
theorem dX7_heldOn_29 : decode cX7_heldOn 29 = .ok (.iadd, 1) := by decide +kernel
theorem dX7_heldOn_30 : decode cX7_heldOn 30 = .ok (.iaload, 1) := by decide +kernel
theorem dX7_heldOn_31 : decode cX7_heldOn 31 = .ok (.iadd, 1) := by decide +kernel
theorem dX7_heldOn_32 : decode cX7_heldOn 32 = .ok (.istore_n 3, 1) := by decide +kernel
theorem dX7_heldOn_33 : decode cX7_heldOn 33 = .ok (.iinc 4 1, 3) := by decide +kernel
theorem dX7_heldOn_36 : decode cX7_heldOn 36 = .ok (.goto (-31), 3) := by decide +kernel
theorem dX7_heldOn_39 : decode cX7_heldOn 39 = .ok (.iload_n 3, 1) := by decide +kernel
theorem dX7_heldOn_40 : decode cX7_heldOn 40 = .ok (.ireturn, 1) := by decide +kernel
theorem dX7_heldByAll_0 : decode cX7_heldByAll 0 = .ok (.iconst 0, 1) := by decide +kernel
theorem dX7_heldByAll_1 : decode cX7_heldByAll 1 = .ok (.istore_n 2, 1) := by decide +kernel
theorem dX7_heldByAll_2 : decode cX7_heldByAll 2 = .ok (.iconst 0, 1) := by decide +kernel
theorem dX7_heldByAll_3 : decode cX7_heldByAll 3 = .ok (.istore_n 3, 1) := by decide +kernel
theorem dX7_heldByAll_4 : decode cX7_heldByAll 4 = .ok (.iload_n 3, 1) := by decide +kernel
theorem dX7_heldByAll_5 : decode cX7_heldByAll 5 = .ok (.aload_n 0, 1) := by decide +kernel
theorem dX7_heldByAll_6 : decode cX7_heldByAll 6 = .ok (.getfield 145, 3) := by decide +kernel
theorem dX7_heldByAll_9 : decode cX7_heldByAll 9 = .ok (.if_icmp .ge 18, 3) := by decide +kernel
theorem dX7_heldByAll_12 : decode cX7_heldByAll 12 = .ok (.iload_n 2, 1) := by decide +kernel
theorem dX7_heldByAll_13 : decode cX7_heldByAll 13 = .ok (.aload_n 0, 1) := by decide +kernel
theorem dX7_heldByAll_14 : decode cX7_heldByAll 14 = .ok (.iload_n 1, 1) := by decide +kernel
theorem dX7_heldByAll_15 : decode cX7_heldByAll 15 = .ok (.iload_n 3, 1) := by decide +kernel
theorem dX7_heldByAll_16 : decode cX7_heldByAll 16 = .ok (.invokevirtual 151, 3) := by decide +kernel
theorem dX7_heldByAll_19 : decode cX7_heldByAll 19 = .ok (.iadd, 1) := by decide +kernel
theorem dX7_heldByAll_20 : decode cX7_heldByAll 20 = .ok (.istore_n 2, 1) := by decide +kernel
theorem dX7_heldByAll_21 : decode cX7_heldByAll 21 = .ok (.iinc 3 1, 3) := by decide +kernel
theorem dX7_heldByAll_24 : decode cX7_heldByAll 24 = .ok (.goto (-20), 3) := by decide +kernel
theorem dX7_heldByAll_27 : decode cX7_heldByAll 27 = .ok (.iload_n 2, 1) := by decide +kernel
theorem dX7_heldByAll_28 : decode cX7_heldByAll 28 = .ok (.ireturn, 1) := by decide +kernel
theorem dX7_hueOn_0 : decode cX7_hueOn 0 = .ok (.aload_n 0, 1) := by decide +kernel
theorem dX7_hueOn_1 : decode cX7_hueOn 1 = .ok (.iload_n 1, 1) := by decide +kernel
theorem dX7_hueOn_2 : decode cX7_hueOn 2 = .ok (.iload_n 2, 1) := by decide +kernel
theorem dX7_hueOn_3 : decode cX7_hueOn 3 = .ok (.invokevirtual 151, 3) := by decide +kernel
theorem dX7_hueOn_6 : decode cX7_hueOn 6 = .ok (.istore_n 3, 1) := by decide +kernel
theorem dX7_hueOn_7 : decode cX7_hueOn 7 = .ok (.iconst 0, 1) := by decide +kernel
theorem dX7_hueOn_8 : decode cX7_hueOn 8 = .ok (.istore 4, 2) := by decide +kernel
theorem dX7_hueOn_10 : decode cX7_hueOn 10 = .ok (.iconst 0, 1) := by decide +kernel
theorem dX7_hueOn_11 : decode cX7_hueOn 11 = .ok (.istore 5, 2) := by decide +kernel
theorem dX7_hueOn_13 : decode cX7_hueOn 13 = .ok (.iload 5, 2) := by decide +kernel
theorem dX7_hueOn_15 : decode cX7_hueOn 15 = .ok (.bipush 15, 2) := by decide +kernel
theorem dX7_hueOn_17 : decode cX7_hueOn 17 = .ok (.if_icmp .ge 86, 3) := by decide +kernel
theorem dX7_hueOn_20 : decode cX7_hueOn 20 = .ok (.iconst 0, 1) := by decide +kernel
theorem dX7_hueOn_21 : decode cX7_hueOn 21 = .ok (.istore 6, 2) := by decide +kernel
theorem dX7_hueOn_23 : decode cX7_hueOn 23 = .ok (.iconst 0, 1) := by decide +kernel
theorem dX7_hueOn_24 : decode cX7_hueOn 24 = .ok (.istore 7, 2) := by decide +kernel
theorem dX7_hueOn_26 : decode cX7_hueOn 26 = .ok (.iload 7, 2) := by decide +kernel
theorem dX7_hueOn_28 : decode cX7_hueOn 28 = .ok (.aload_n 0, 1) := by decide +kernel
theorem dX7_hueOn_29 : decode cX7_hueOn 29 = .ok (.getfield 142, 3) := by decide +kernel
theorem dX7_hueOn_32 : decode cX7_hueOn 32 = .ok (.if_icmp .ge 45, 3) := by decide +kernel
theorem dX7_hueOn_35 : decode cX7_hueOn 35 = .ok (.iload 6, 2) := by decide +kernel
theorem dX7_hueOn_37 : decode cX7_hueOn 37 = .ok (.aload_n 0, 1) := by decide +kernel
theorem dX7_hueOn_38 : decode cX7_hueOn 38 = .ok (.getfield 7, 3) := by decide +kernel
theorem dX7_hueOn_41 : decode cX7_hueOn 41 = .ok (.iload_n 1, 1) := by decide +kernel
theorem dX7_hueOn_42 : decode cX7_hueOn 42 = .ok (.bipush 33, 2) := by decide +kernel
theorem dX7_hueOn_44 : decode cX7_hueOn 44 = .ok (.iadd, 1) := by decide +kernel
theorem dX7_hueOn_45 : decode cX7_hueOn 45 = .ok (.iconst 5, 1) := by decide +kernel
theorem dX7_hueOn_46 : decode cX7_hueOn 46 = .ok (.iload_n 2, 1) := by decide +kernel
theorem dX7_hueOn_47 : decode cX7_hueOn 47 = .ok (.imul, 1) := by decide +kernel
theorem dX7_hueOn_48 : decode cX7_hueOn 48 = .ok (.iadd, 1) := by decide +kernel
theorem dX7_hueOn_49 : decode cX7_hueOn 49 = .ok (.iload 7, 2) := by decide +kernel
theorem dX7_hueOn_51 : decode cX7_hueOn 51 = .ok (.iadd, 1) := by decide +kernel
theorem dX7_hueOn_52 : decode cX7_hueOn 52 = .ok (.iaload, 1) := by decide +kernel
theorem dX7_hueOn_53 : decode cX7_hueOn 53 = .ok (.aload_n 0, 1) := by decide +kernel
theorem dX7_hueOn_54 : decode cX7_hueOn 54 = .ok (.getfield 7, 3) := by decide +kernel
theorem dX7_hueOn_57 : decode cX7_hueOn 57 = .ok (.iload_n 1, 1) := by decide +kernel
theorem dX7_hueOn_58 : decode cX7_hueOn 58 = .ok (.iconst 5, 1) := by decide +kernel
theorem dX7_hueOn_59 : decode cX7_hueOn 59 = .ok (.iadd, 1) := by decide +kernel
theorem dX7_hueOn_60 : decode cX7_hueOn 60 = .ok (.iload 5, 2) := by decide +kernel
theorem dX7_hueOn_62 : decode cX7_hueOn 62 = .ok (.iadd, 1) := by decide +kernel
theorem dX7_hueOn_63 : decode cX7_hueOn 63 = .ok (.iload 7, 2) := by decide +kernel
theorem dX7_hueOn_65 : decode cX7_hueOn 65 = .ok (.iadd, 1) := by decide +kernel
theorem dX7_hueOn_66 : decode cX7_hueOn 66 = .ok (.iaload, 1) := by decide +kernel
theorem dX7_hueOn_67 : decode cX7_hueOn 67 = .ok (.imul, 1) := by decide +kernel
theorem dX7_hueOn_68 : decode cX7_hueOn 68 = .ok (.iadd, 1) := by decide +kernel
theorem dX7_hueOn_69 : decode cX7_hueOn 69 = .ok (.istore 6, 2) := by decide +kernel
theorem dX7_hueOn_71 : decode cX7_hueOn 71 = .ok (.iinc 7 1, 3) := by decide +kernel
theorem dX7_hueOn_74 : decode cX7_hueOn 74 = .ok (.goto (-48), 3) := by decide +kernel
theorem dX7_hueOn_77 : decode cX7_hueOn 77 = .ok (.bipush 10, 2) := by decide +kernel
theorem dX7_hueOn_79 : decode cX7_hueOn 79 = .ok (.iload 4, 2) := by decide +kernel
theorem dX7_hueOn_81 : decode cX7_hueOn 81 = .ok (.imul, 1) := by decide +kernel
theorem dX7_hueOn_82 : decode cX7_hueOn 82 = .ok (.iload_n 3, 1) := by decide +kernel
theorem dX7_hueOn_83 : decode cX7_hueOn 83 = .ok (.ifCond .ne 7, 3) := by decide +kernel
theorem dX7_hueOn_86 : decode cX7_hueOn 86 = .ok (.iconst 0, 1) := by decide +kernel
theorem dX7_hueOn_87 : decode cX7_hueOn 87 = .ok (.goto 7, 3) := by decide +kernel
theorem dX7_hueOn_90 : decode cX7_hueOn 90 = .ok (.iload 6, 2) := by decide +kernel
theorem dX7_hueOn_92 : decode cX7_hueOn 92 = .ok (.iload_n 3, 1) := by decide +kernel
theorem dX7_hueOn_93 : decode cX7_hueOn 93 = .ok (.idiv, 1) := by decide +kernel
theorem dX7_hueOn_94 : decode cX7_hueOn 94 = .ok (.iadd, 1) := by decide +kernel
theorem dX7_hueOn_95 : decode cX7_hueOn 95 = .ok (.istore 4, 2) := by decide +kernel
theorem dX7_hueOn_97 : decode cX7_hueOn 97 = .ok (.iinc 5 5, 3) := by decide +kernel
theorem dX7_hueOn_100 : decode cX7_hueOn 100 = .ok (.goto (-87), 3) := by decide +kernel
theorem dX7_hueOn_103 : decode cX7_hueOn 103 = .ok (.iload 4, 2) := by decide +kernel
theorem dX7_hueOn_105 : decode cX7_hueOn 105 = .ok (.ireturn, 1) := by decide +kernel
theorem dX7_apart_0 : decode cX7_apart 0 = .ok (.iload_n 0, 1) := by decide +kernel
theorem dX7_apart_1 : decode cX7_apart 1 = .ok (.iload_n 1, 1) := by decide +kernel
theorem dX7_apart_2 : decode cX7_apart 2 = .ok (.if_icmp .le 9, 3) := by decide +kernel
theorem dX7_apart_5 : decode cX7_apart 5 = .ok (.iload_n 0, 1) := by decide +kernel
theorem dX7_apart_6 : decode cX7_apart 6 = .ok (.iload_n 1, 1) := by decide +kernel
theorem dX7_apart_7 : decode cX7_apart 7 = .ok (.isub, 1) := by decide +kernel
theorem dX7_apart_8 : decode cX7_apart 8 = .ok (.goto 6, 3) := by decide +kernel
theorem dX7_apart_11 : decode cX7_apart 11 = .ok (.iload_n 1, 1) := by decide +kernel
theorem dX7_apart_12 : decode cX7_apart 12 = .ok (.iload_n 0, 1) := by decide +kernel
theorem dX7_apart_13 : decode cX7_apart 13 = .ok (.isub, 1) := by decide +kernel
theorem dX7_apart_14 : decode cX7_apart 14 = .ok (.ireturn, 1) := by decide +kernel
theorem dX7_offOf_0 : decode cX7_offOf 0 = .ok (.iload_n 0, 1) := by decide +kernel
theorem dX7_offOf_1 : decode cX7_offOf 1 = .ok (.bipush 100, 2) := by decide +kernel
theorem dX7_offOf_3 : decode cX7_offOf 3 = .ok (.idiv, 1) := by decide +kernel
theorem dX7_offOf_4 : decode cX7_offOf 4 = .ok (.iload_n 1, 1) := by decide +kernel
theorem dX7_offOf_5 : decode cX7_offOf 5 = .ok (.bipush 100, 2) := by decide +kernel
theorem dX7_offOf_7 : decode cX7_offOf 7 = .ok (.idiv, 1) := by decide +kernel
theorem dX7_offOf_8 : decode cX7_offOf 8 = .ok (.invokestatic 154, 3) := by decide +kernel
theorem dX7_offOf_11 : decode cX7_offOf 11 = .ok (.iload_n 0, 1) := by decide +kernel
theorem dX7_offOf_12 : decode cX7_offOf 12 = .ok (.bipush 10, 2) := by decide +kernel
theorem dX7_offOf_14 : decode cX7_offOf 14 = .ok (.idiv, 1) := by decide +kernel
theorem dX7_offOf_15 : decode cX7_offOf 15 = .ok (.bipush 10, 2) := by decide +kernel
theorem dX7_offOf_17 : decode cX7_offOf 17 = .ok (.irem, 1) := by decide +kernel
theorem dX7_offOf_18 : decode cX7_offOf 18 = .ok (.iload_n 1, 1) := by decide +kernel
theorem dX7_offOf_19 : decode cX7_offOf 19 = .ok (.bipush 10, 2) := by decide +kernel
theorem dX7_offOf_21 : decode cX7_offOf 21 = .ok (.idiv, 1) := by decide +kernel
theorem dX7_offOf_22 : decode cX7_offOf 22 = .ok (.bipush 10, 2) := by decide +kernel
theorem dX7_offOf_24 : decode cX7_offOf 24 = .ok (.irem, 1) := by decide +kernel
theorem dX7_offOf_25 : decode cX7_offOf 25 = .ok (.invokestatic 154, 3) := by decide +kernel
theorem dX7_offOf_28 : decode cX7_offOf 28 = .ok (.iadd, 1) := by decide +kernel
theorem dX7_offOf_29 : decode cX7_offOf 29 = .ok (.iload_n 0, 1) := by decide +kernel
theorem dX7_offOf_30 : decode cX7_offOf 30 = .ok (.bipush 10, 2) := by decide +kernel
theorem dX7_offOf_32 : decode cX7_offOf 32 = .ok (.irem, 1) := by decide +kernel
theorem dX7_offOf_33 : decode cX7_offOf 33 = .ok (.iload_n 1, 1) := by decide +kernel
theorem dX7_offOf_34 : decode cX7_offOf 34 = .ok (.bipush 10, 2) := by decide +kernel
theorem dX7_offOf_36 : decode cX7_offOf 36 = .ok (.irem, 1) := by decide +kernel
theorem dX7_offOf_37 : decode cX7_offOf 37 = .ok (.invokestatic 154, 3) := by decide +kernel
theorem dX7_offOf_40 : decode cX7_offOf 40 = .ok (.iadd, 1) := by decide +kernel
theorem dX7_offOf_41 : decode cX7_offOf 41 = .ok (.ireturn, 1) := by decide +kernel
theorem dX7_colourGoes_0 : decode cX7_colourGoes 0 = .ok (.iload_n 1, 1) := by decide +kernel
theorem dX7_colourGoes_1 : decode cX7_colourGoes 1 = .ok (.bipush 33, 2) := by decide +kernel
theorem dX7_colourGoes_3 : decode cX7_colourGoes 3 = .ok (.iadd, 1) := by decide +kernel
theorem dX7_colourGoes_4 : decode cX7_colourGoes 4 = .ok (.iconst 5, 1) := by decide +kernel
theorem dX7_colourGoes_5 : decode cX7_colourGoes 5 = .ok (.iload_n 2, 1) := by decide +kernel
theorem dX7_colourGoes_6 : decode cX7_colourGoes 6 = .ok (.imul, 1) := by decide +kernel
theorem dX7_colourGoes_7 : decode cX7_colourGoes 7 = .ok (.iadd, 1) := by decide +kernel
theorem dX7_colourGoes_8 : decode cX7_colourGoes 8 = .ok (.iload_n 3, 1) := by decide +kernel
theorem dX7_colourGoes_9 : decode cX7_colourGoes 9 = .ok (.iadd, 1) := by decide +kernel
theorem dX7_colourGoes_10 : decode cX7_colourGoes 10 = .ok (.istore 5, 2) := by decide +kernel
theorem dX7_colourGoes_12 : decode cX7_colourGoes 12 = .ok (.aload_n 0, 1) := by decide +kernel
theorem dX7_colourGoes_13 : decode cX7_colourGoes 13 = .ok (.iload_n 1, 1) := by decide +kernel
theorem dX7_colourGoes_14 : decode cX7_colourGoes 14 = .ok (.iload_n 3, 1) := by decide +kernel
theorem dX7_colourGoes_15 : decode cX7_colourGoes 15 = .ok (.invokevirtual 157, 3) := by decide +kernel
theorem dX7_colourGoes_18 : decode cX7_colourGoes 18 = .ok (.aload_n 0, 1) := by decide +kernel
theorem dX7_colourGoes_19 : decode cX7_colourGoes 19 = .ok (.getfield 7, 3) := by decide +kernel
theorem dX7_colourGoes_22 : decode cX7_colourGoes 22 = .ok (.iload 5, 2) := by decide +kernel
theorem dX7_colourGoes_24 : decode cX7_colourGoes 24 = .ok (.iaload, 1) := by decide +kernel
theorem dX7_colourGoes_25 : decode cX7_colourGoes 25 = .ok (.imul, 1) := by decide +kernel
theorem dX7_colourGoes_26 : decode cX7_colourGoes 26 = .ok (.istore 6, 2) := by decide +kernel
theorem dX7_colourGoes_28 : decode cX7_colourGoes 28 = .ok (.aload_n 0, 1) := by decide +kernel
theorem dX7_colourGoes_29 : decode cX7_colourGoes 29 = .ok (.getfield 7, 3) := by decide +kernel
theorem dX7_colourGoes_32 : decode cX7_colourGoes 32 = .ok (.iload 5, 2) := by decide +kernel
theorem dX7_colourGoes_34 : decode cX7_colourGoes 34 = .ok (.iaload, 1) := by decide +kernel
theorem dX7_colourGoes_35 : decode cX7_colourGoes 35 = .ok (.ifCond .ne 4, 3) := by decide +kernel
theorem dX7_colourGoes_38 : decode cX7_colourGoes 38 = .ok (.return_, 1) := by decide +kernel
theorem dX7_colourGoes_39 : decode cX7_colourGoes 39 = .ok (.aload_n 0, 1) := by decide +kernel
theorem dX7_colourGoes_40 : decode cX7_colourGoes 40 = .ok (.getfield 7, 3) := by decide +kernel
theorem dX7_colourGoes_43 : decode cX7_colourGoes 43 = .ok (.iload_n 1, 1) := by decide +kernel
theorem dX7_colourGoes_44 : decode cX7_colourGoes 44 = .ok (.bipush 25, 2) := by decide +kernel
theorem dX7_colourGoes_46 : decode cX7_colourGoes 46 = .ok (.iadd, 1) := by decide +kernel
theorem dX7_colourGoes_47 : decode cX7_colourGoes 47 = .ok (.iload_n 2, 1) := by decide +kernel
theorem dX7_colourGoes_48 : decode cX7_colourGoes 48 = .ok (.iadd, 1) := by decide +kernel
theorem dX7_colourGoes_49 : decode cX7_colourGoes 49 = .ok (.iaload, 1) := by decide +kernel
theorem dX7_colourGoes_50 : decode cX7_colourGoes 50 = .ok (.iload 6, 2) := by decide +kernel
theorem dX7_colourGoes_52 : decode cX7_colourGoes 52 = .ok (.if_icmp .lt 78, 3) := by decide +kernel
theorem dX7_colourGoes_55 : decode cX7_colourGoes 55 = .ok (.aload_n 0, 1) := by decide +kernel
theorem dX7_colourGoes_56 : decode cX7_colourGoes 56 = .ok (.getfield 7, 3) := by decide +kernel
theorem dX7_colourGoes_59 : decode cX7_colourGoes 59 = .ok (.iload_n 1, 1) := by decide +kernel
theorem dX7_colourGoes_60 : decode cX7_colourGoes 60 = .ok (.bipush 25, 2) := by decide +kernel
theorem dX7_colourGoes_62 : decode cX7_colourGoes 62 = .ok (.iadd, 1) := by decide +kernel
theorem dX7_colourGoes_63 : decode cX7_colourGoes 63 = .ok (.iload_n 2, 1) := by decide +kernel
theorem dX7_colourGoes_64 : decode cX7_colourGoes 64 = .ok (.iadd, 1) := by decide +kernel
theorem dX7_colourGoes_65 : decode cX7_colourGoes 65 = .ok (.dup2, 1) := by decide +kernel
theorem dX7_colourGoes_66 : decode cX7_colourGoes 66 = .ok (.iaload, 1) := by decide +kernel
theorem dX7_colourGoes_67 : decode cX7_colourGoes 67 = .ok (.iload 6, 2) := by decide +kernel
theorem dX7_colourGoes_69 : decode cX7_colourGoes 69 = .ok (.isub, 1) := by decide +kernel
theorem dX7_colourGoes_70 : decode cX7_colourGoes 70 = .ok (.iastore, 1) := by decide +kernel
theorem dX7_colourGoes_71 : decode cX7_colourGoes 71 = .ok (.aload_n 0, 1) := by decide +kernel
theorem dX7_colourGoes_72 : decode cX7_colourGoes 72 = .ok (.dup, 1) := by decide +kernel
theorem dX7_colourGoes_73 : decode cX7_colourGoes 73 = .ok (.getfield 160, 3) := by decide +kernel
theorem dX7_colourGoes_76 : decode cX7_colourGoes 76 = .ok (.iload 6, 2) := by decide +kernel
theorem dX7_colourGoes_78 : decode cX7_colourGoes 78 = .ok (.iadd, 1) := by decide +kernel
theorem dX7_colourGoes_79 : decode cX7_colourGoes 79 = .ok (.putfield 160, 3) := by decide +kernel
theorem dX7_colourGoes_82 : decode cX7_colourGoes 82 = .ok (.iload 4, 2) := by decide +kernel
theorem dX7_colourGoes_84 : decode cX7_colourGoes 84 = .ok (.aload_n 0, 1) := by decide +kernel
theorem dX7_colourGoes_85 : decode cX7_colourGoes 85 = .ok (.iload_n 1, 1) := by decide +kernel
theorem dX7_colourGoes_86 : decode cX7_colourGoes 86 = .ok (.iload_n 3, 1) := by decide +kernel
theorem dX7_colourGoes_87 : decode cX7_colourGoes 87 = .ok (.invokevirtual 163, 3) := by decide +kernel
theorem dX7_colourGoes_90 : decode cX7_colourGoes 90 = .ok (.imul, 1) := by decide +kernel
theorem dX7_colourGoes_91 : decode cX7_colourGoes 91 = .ok (.istore 7, 2) := by decide +kernel
theorem dX7_colourGoes_93 : decode cX7_colourGoes 93 = .ok (.aload_n 0, 1) := by decide +kernel
theorem dX7_colourGoes_94 : decode cX7_colourGoes 94 = .ok (.getfield 7, 3) := by decide +kernel
theorem dX7_colourGoes_97 : decode cX7_colourGoes 97 = .ok (.iload 5, 2) := by decide +kernel
theorem dX7_colourGoes_99 : decode cX7_colourGoes 99 = .ok (.dup2, 1) := by decide +kernel
theorem dX7_colourGoes_100 : decode cX7_colourGoes 100 = .ok (.iaload, 1) := by decide +kernel
theorem dX7_colourGoes_101 : decode cX7_colourGoes 101 = .ok (.iload 7, 2) := by decide +kernel
theorem dX7_colourGoes_103 : decode cX7_colourGoes 103 = .ok (.aload_n 0, 1) := by decide +kernel
theorem dX7_colourGoes_104 : decode cX7_colourGoes 104 = .ok (.getfield 7, 3) := by decide +kernel
theorem dX7_colourGoes_107 : decode cX7_colourGoes 107 = .ok (.iload 5, 2) := by decide +kernel
theorem dX7_colourGoes_109 : decode cX7_colourGoes 109 = .ok (.iaload, 1) := by decide +kernel
theorem dX7_colourGoes_110 : decode cX7_colourGoes 110 = .ok (.if_icmp .ge 8, 3) := by decide +kernel
theorem dX7_colourGoes_113 : decode cX7_colourGoes 113 = .ok (.iload 7, 2) := by decide +kernel
theorem dX7_colourGoes_115 : decode cX7_colourGoes 115 = .ok (.goto 10, 3) := by decide +kernel
theorem dX7_colourGoes_118 : decode cX7_colourGoes 118 = .ok (.aload_n 0, 1) := by decide +kernel
theorem dX7_colourGoes_119 : decode cX7_colourGoes 119 = .ok (.getfield 7, 3) := by decide +kernel
theorem dX7_colourGoes_122 : decode cX7_colourGoes 122 = .ok (.iload 5, 2) := by decide +kernel
theorem dX7_colourGoes_124 : decode cX7_colourGoes 124 = .ok (.iaload, 1) := by decide +kernel
theorem dX7_colourGoes_125 : decode cX7_colourGoes 125 = .ok (.isub, 1) := by decide +kernel
theorem dX7_colourGoes_126 : decode cX7_colourGoes 126 = .ok (.iastore, 1) := by decide +kernel
theorem dX7_colourGoes_127 : decode cX7_colourGoes 127 = .ok (.goto 80, 3) := by decide +kernel
theorem dX7_colourGoes_130 : decode cX7_colourGoes 130 = .ok (.aload_n 0, 1) := by decide +kernel
theorem dX7_colourGoes_131 : decode cX7_colourGoes 131 = .ok (.getfield 7, 3) := by decide +kernel
theorem dX7_colourGoes_134 : decode cX7_colourGoes 134 = .ok (.iload_n 1, 1) := by decide +kernel
theorem dX7_colourGoes_135 : decode cX7_colourGoes 135 = .ok (.bipush 20, 2) := by decide +kernel
theorem dX7_colourGoes_137 : decode cX7_colourGoes 137 = .ok (.iadd, 1) := by decide +kernel
theorem dX7_colourGoes_138 : decode cX7_colourGoes 138 = .ok (.iload_n 3, 1) := by decide +kernel
theorem dX7_colourGoes_139 : decode cX7_colourGoes 139 = .ok (.iadd, 1) := by decide +kernel
theorem dX7_colourGoes_140 : decode cX7_colourGoes 140 = .ok (.iaload, 1) := by decide +kernel
theorem dX7_colourGoes_141 : decode cX7_colourGoes 141 = .ok (.aload_n 0, 1) := by decide +kernel
theorem dX7_colourGoes_142 : decode cX7_colourGoes 142 = .ok (.getfield 7, 3) := by decide +kernel
theorem dX7_colourGoes_145 : decode cX7_colourGoes 145 = .ok (.iload 5, 2) := by decide +kernel
theorem dX7_colourGoes_147 : decode cX7_colourGoes 147 = .ok (.iaload, 1) := by decide +kernel
theorem dX7_colourGoes_148 : decode cX7_colourGoes 148 = .ok (.iadd, 1) := by decide +kernel
theorem dX7_colourGoes_149 : decode cX7_colourGoes 149 = .ok (.istore 7, 2) := by decide +kernel
theorem dX7_colourGoes_151 : decode cX7_colourGoes 151 = .ok (.aload_n 0, 1) := by decide +kernel
theorem dX7_colourGoes_152 : decode cX7_colourGoes 152 = .ok (.getfield 7, 3) := by decide +kernel
theorem dX7_colourGoes_155 : decode cX7_colourGoes 155 = .ok (.iload_n 1, 1) := by decide +kernel
theorem dX7_colourGoes_156 : decode cX7_colourGoes 156 = .ok (.bipush 20, 2) := by decide +kernel
theorem dX7_colourGoes_158 : decode cX7_colourGoes 158 = .ok (.iadd, 1) := by decide +kernel
theorem dX7_colourGoes_159 : decode cX7_colourGoes 159 = .ok (.iload_n 3, 1) := by decide +kernel
theorem dX7_colourGoes_160 : decode cX7_colourGoes 160 = .ok (.iadd, 1) := by decide +kernel
theorem dX7_colourGoes_161 : decode cX7_colourGoes 161 = .ok (.iload 7, 2) := by decide +kernel
theorem dX7_colourGoes_163 : decode cX7_colourGoes 163 = .ok (.bipush 99, 2) := by decide +kernel
theorem dX7_colourGoes_165 : decode cX7_colourGoes 165 = .ok (.if_icmp .le 8, 3) := by decide +kernel
theorem dX7_colourGoes_168 : decode cX7_colourGoes 168 = .ok (.bipush 99, 2) := by decide +kernel
theorem dX7_colourGoes_170 : decode cX7_colourGoes 170 = .ok (.goto 5, 3) := by decide +kernel
theorem dX7_colourGoes_173 : decode cX7_colourGoes 173 = .ok (.iload 7, 2) := by decide +kernel
theorem dX7_colourGoes_175 : decode cX7_colourGoes 175 = .ok (.iastore, 1) := by decide +kernel
theorem dX7_colourGoes_176 : decode cX7_colourGoes 176 = .ok (.aload_n 0, 1) := by decide +kernel
theorem dX7_colourGoes_177 : decode cX7_colourGoes 177 = .ok (.getfield 7, 3) := by decide +kernel
theorem dX7_colourGoes_180 : decode cX7_colourGoes 180 = .ok (.iload 5, 2) := by decide +kernel
theorem dX7_colourGoes_182 : decode cX7_colourGoes 182 = .ok (.iconst 0, 1) := by decide +kernel
theorem dX7_colourGoes_183 : decode cX7_colourGoes 183 = .ok (.iastore, 1) := by decide +kernel
theorem dX7_colourGoes_184 : decode cX7_colourGoes 184 = .ok (.aload_n 0, 1) := by decide +kernel
theorem dX7_colourGoes_185 : decode cX7_colourGoes 185 = .ok (.getfield 7, 3) := by decide +kernel
theorem dX7_colourGoes_188 : decode cX7_colourGoes 188 = .ok (.iload_n 1, 1) := by decide +kernel
theorem dX7_colourGoes_189 : decode cX7_colourGoes 189 = .ok (.bipush 54, 2) := by decide +kernel
theorem dX7_colourGoes_191 : decode cX7_colourGoes 191 = .ok (.iadd, 1) := by decide +kernel
theorem dX7_colourGoes_192 : decode cX7_colourGoes 192 = .ok (.dup2, 1) := by decide +kernel
theorem dX7_colourGoes_193 : decode cX7_colourGoes 193 = .ok (.iaload, 1) := by decide +kernel
theorem dX7_colourGoes_194 : decode cX7_colourGoes 194 = .ok (.iconst 1, 1) := by decide +kernel
theorem dX7_colourGoes_195 : decode cX7_colourGoes 195 = .ok (.iadd, 1) := by decide +kernel
theorem dX7_colourGoes_196 : decode cX7_colourGoes 196 = .ok (.iastore, 1) := by decide +kernel
theorem dX7_colourGoes_197 : decode cX7_colourGoes 197 = .ok (.aload_n 0, 1) := by decide +kernel
theorem dX7_colourGoes_198 : decode cX7_colourGoes 198 = .ok (.getfield 25, 3) := by decide +kernel
theorem dX7_colourGoes_201 : decode cX7_colourGoes 201 = .ok (.iload_n 2, 1) := by decide +kernel
theorem dX7_colourGoes_202 : decode cX7_colourGoes 202 = .ok (.dup2, 1) := by decide +kernel
theorem dX7_colourGoes_203 : decode cX7_colourGoes 203 = .ok (.iaload, 1) := by decide +kernel
theorem dX7_colourGoes_204 : decode cX7_colourGoes 204 = .ok (.iconst 1, 1) := by decide +kernel
theorem dX7_colourGoes_205 : decode cX7_colourGoes 205 = .ok (.iadd, 1) := by decide +kernel
theorem dX7_colourGoes_206 : decode cX7_colourGoes 206 = .ok (.iastore, 1) := by decide +kernel
theorem dX7_colourGoes_207 : decode cX7_colourGoes 207 = .ok (.return_, 1) := by decide +kernel
theorem dX7_dayOn_0 : decode cX7_dayOn 0 = .ok (.iconst 0, 1) := by decide +kernel
theorem dX7_dayOn_1 : decode cX7_dayOn 1 = .ok (.istore_n 3, 1) := by decide +kernel
theorem dX7_dayOn_2 : decode cX7_dayOn 2 = .ok (.iload_n 3, 1) := by decide +kernel
theorem dX7_dayOn_3 : decode cX7_dayOn 3 = .ok (.aload_n 0, 1) := by decide +kernel
theorem dX7_dayOn_4 : decode cX7_dayOn 4 = .ok (.getfield 145, 3) := by decide +kernel
theorem dX7_dayOn_7 : decode cX7_dayOn 7 = .ok (.if_icmp .ge 88, 3) := by decide +kernel
theorem dX7_dayOn_10 : decode cX7_dayOn 10 = .ok (.aload_n 0, 1) := by decide +kernel
theorem dX7_dayOn_11 : decode cX7_dayOn 11 = .ok (.getfield 7, 3) := by decide +kernel
theorem dX7_dayOn_14 : decode cX7_dayOn 14 = .ok (.iload_n 1, 1) := by decide +kernel
theorem dX7_dayOn_15 : decode cX7_dayOn 15 = .ok (.bipush 25, 2) := by decide +kernel
theorem dX7_dayOn_17 : decode cX7_dayOn 17 = .ok (.iadd, 1) := by decide +kernel
theorem dX7_dayOn_18 : decode cX7_dayOn 18 = .ok (.iload_n 3, 1) := by decide +kernel
theorem dX7_dayOn_19 : decode cX7_dayOn 19 = .ok (.iadd, 1) := by decide +kernel
theorem dX7_dayOn_20 : decode cX7_dayOn 20 = .ok (.iaload, 1) := by decide +kernel
theorem dX7_dayOn_21 : decode cX7_dayOn 21 = .ok (.aload_n 0, 1) := by decide +kernel
theorem dX7_dayOn_22 : decode cX7_dayOn 22 = .ok (.getfield 7, 3) := by decide +kernel
theorem dX7_dayOn_25 : decode cX7_dayOn 25 = .ok (.iload_n 1, 1) := by decide +kernel
theorem dX7_dayOn_26 : decode cX7_dayOn 26 = .ok (.bipush 29, 2) := by decide +kernel
theorem dX7_dayOn_28 : decode cX7_dayOn 28 = .ok (.iadd, 1) := by decide +kernel
theorem dX7_dayOn_29 : decode cX7_dayOn 29 = .ok (.iload_n 3, 1) := by decide +kernel
theorem dX7_dayOn_30 : decode cX7_dayOn 30 = .ok (.iadd, 1) := by decide +kernel
theorem dX7_dayOn_31 : decode cX7_dayOn 31 = .ok (.iaload, 1) := by decide +kernel
theorem dX7_dayOn_32 : decode cX7_dayOn 32 = .ok (.iadd, 1) := by decide +kernel
theorem dX7_dayOn_33 : decode cX7_dayOn 33 = .ok (.istore 4, 2) := by decide +kernel
theorem dX7_dayOn_35 : decode cX7_dayOn 35 = .ok (.aload_n 0, 1) := by decide +kernel
theorem dX7_dayOn_36 : decode cX7_dayOn 36 = .ok (.getfield 7, 3) := by decide +kernel
theorem dX7_dayOn_39 : decode cX7_dayOn 39 = .ok (.iload_n 1, 1) := by decide +kernel
theorem dX7_dayOn_40 : decode cX7_dayOn 40 = .ok (.bipush 25, 2) := by decide +kernel
theorem dX7_dayOn_42 : decode cX7_dayOn 42 = .ok (.iadd, 1) := by decide +kernel
theorem dX7_dayOn_43 : decode cX7_dayOn 43 = .ok (.iload_n 3, 1) := by decide +kernel
theorem dX7_dayOn_44 : decode cX7_dayOn 44 = .ok (.iadd, 1) := by decide +kernel
theorem dX7_dayOn_45 : decode cX7_dayOn 45 = .ok (.iload 4, 2) := by decide +kernel
theorem dX7_dayOn_47 : decode cX7_dayOn 47 = .ok (.sipush 999, 3) := by decide +kernel
theorem dX7_dayOn_50 : decode cX7_dayOn 50 = .ok (.if_icmp .le 9, 3) := by decide +kernel
theorem dX7_dayOn_53 : decode cX7_dayOn 53 = .ok (.sipush 999, 3) := by decide +kernel
theorem dX7_dayOn_56 : decode cX7_dayOn 56 = .ok (.goto 5, 3) := by decide +kernel
theorem dX7_dayOn_59 : decode cX7_dayOn 59 = .ok (.iload 4, 2) := by decide +kernel
theorem dX7_dayOn_61 : decode cX7_dayOn 61 = .ok (.iastore, 1) := by decide +kernel
theorem dX7_dayOn_62 : decode cX7_dayOn 62 = .ok (.iconst 0, 1) := by decide +kernel
theorem dX7_dayOn_63 : decode cX7_dayOn 63 = .ok (.istore 5, 2) := by decide +kernel
theorem dX7_dayOn_65 : decode cX7_dayOn 65 = .ok (.iload 5, 2) := by decide +kernel
theorem dX7_dayOn_67 : decode cX7_dayOn 67 = .ok (.aload_n 0, 1) := by decide +kernel
theorem dX7_dayOn_68 : decode cX7_dayOn 68 = .ok (.getfield 142, 3) := by decide +kernel
theorem dX7_dayOn_71 : decode cX7_dayOn 71 = .ok (.if_icmp .ge 18, 3) := by decide +kernel
theorem dX7_dayOn_74 : decode cX7_dayOn 74 = .ok (.aload_n 0, 1) := by decide +kernel
theorem dX7_dayOn_75 : decode cX7_dayOn 75 = .ok (.iload_n 1, 1) := by decide +kernel
theorem dX7_dayOn_76 : decode cX7_dayOn 76 = .ok (.iload_n 3, 1) := by decide +kernel
theorem dX7_dayOn_77 : decode cX7_dayOn 77 = .ok (.iload 5, 2) := by decide +kernel
theorem dX7_dayOn_79 : decode cX7_dayOn 79 = .ok (.iload_n 2, 1) := by decide +kernel
theorem dX7_dayOn_80 : decode cX7_dayOn 80 = .ok (.invokevirtual 166, 3) := by decide +kernel
theorem dX7_dayOn_83 : decode cX7_dayOn 83 = .ok (.iinc 5 1, 3) := by decide +kernel
theorem dX7_dayOn_86 : decode cX7_dayOn 86 = .ok (.goto (-21), 3) := by decide +kernel
theorem dX7_dayOn_89 : decode cX7_dayOn 89 = .ok (.iinc 3 1, 3) := by decide +kernel
theorem dX7_dayOn_92 : decode cX7_dayOn 92 = .ok (.goto (-90), 3) := by decide +kernel
theorem dX7_dayOn_95 : decode cX7_dayOn 95 = .ok (.aload_n 0, 1) := by decide +kernel
theorem dX7_dayOn_96 : decode cX7_dayOn 96 = .ok (.getfield 7, 3) := by decide +kernel
theorem dX7_dayOn_99 : decode cX7_dayOn 99 = .ok (.iload_n 1, 1) := by decide +kernel
theorem dX7_dayOn_100 : decode cX7_dayOn 100 = .ok (.bipush 53, 2) := by decide +kernel
theorem dX7_dayOn_102 : decode cX7_dayOn 102 = .ok (.iadd, 1) := by decide +kernel
theorem dX7_dayOn_103 : decode cX7_dayOn 103 = .ok (.dup2, 1) := by decide +kernel
theorem dX7_dayOn_104 : decode cX7_dayOn 104 = .ok (.iaload, 1) := by decide +kernel
theorem dX7_dayOn_105 : decode cX7_dayOn 105 = .ok (.iconst 1, 1) := by decide +kernel
theorem dX7_dayOn_106 : decode cX7_dayOn 106 = .ok (.iadd, 1) := by decide +kernel
theorem dX7_dayOn_107 : decode cX7_dayOn 107 = .ok (.iastore, 1) := by decide +kernel
theorem dX7_dayOn_108 : decode cX7_dayOn 108 = .ok (.return_, 1) := by decide +kernel
theorem dX7_vatsOn_0 : decode cX7_vatsOn 0 = .ok (.iconst 0, 1) := by decide +kernel
theorem dX7_vatsOn_1 : decode cX7_vatsOn 1 = .ok (.istore_n 2, 1) := by decide +kernel
theorem dX7_vatsOn_2 : decode cX7_vatsOn 2 = .ok (.iconst 0, 1) := by decide +kernel
theorem dX7_vatsOn_3 : decode cX7_vatsOn 3 = .ok (.istore_n 3, 1) := by decide +kernel
theorem dX7_vatsOn_4 : decode cX7_vatsOn 4 = .ok (.iload_n 3, 1) := by decide +kernel
theorem dX7_vatsOn_5 : decode cX7_vatsOn 5 = .ok (.aload_n 0, 1) := by decide +kernel
theorem dX7_vatsOn_6 : decode cX7_vatsOn 6 = .ok (.getfield 142, 3) := by decide +kernel
theorem dX7_vatsOn_9 : decode cX7_vatsOn 9 = .ok (.if_icmp .ge 23, 3) := by decide +kernel
theorem dX7_vatsOn_12 : decode cX7_vatsOn 12 = .ok (.iload_n 2, 1) := by decide +kernel
theorem dX7_vatsOn_13 : decode cX7_vatsOn 13 = .ok (.aload_n 0, 1) := by decide +kernel
theorem dX7_vatsOn_14 : decode cX7_vatsOn 14 = .ok (.getfield 7, 3) := by decide +kernel
theorem dX7_vatsOn_17 : decode cX7_vatsOn 17 = .ok (.iload_n 1, 1) := by decide +kernel
theorem dX7_vatsOn_18 : decode cX7_vatsOn 18 = .ok (.bipush 20, 2) := by decide +kernel
theorem dX7_vatsOn_20 : decode cX7_vatsOn 20 = .ok (.iadd, 1) := by decide +kernel
theorem dX7_vatsOn_21 : decode cX7_vatsOn 21 = .ok (.iload_n 3, 1) := by decide +kernel
theorem dX7_vatsOn_22 : decode cX7_vatsOn 22 = .ok (.iadd, 1) := by decide +kernel
theorem dX7_vatsOn_23 : decode cX7_vatsOn 23 = .ok (.iaload, 1) := by decide +kernel
theorem dX7_vatsOn_24 : decode cX7_vatsOn 24 = .ok (.iadd, 1) := by decide +kernel
theorem dX7_vatsOn_25 : decode cX7_vatsOn 25 = .ok (.istore_n 2, 1) := by decide +kernel
theorem dX7_vatsOn_26 : decode cX7_vatsOn 26 = .ok (.iinc 3 1, 3) := by decide +kernel
theorem dX7_vatsOn_29 : decode cX7_vatsOn 29 = .ok (.goto (-25), 3) := by decide +kernel
theorem dX7_vatsOn_32 : decode cX7_vatsOn 32 = .ok (.iload_n 2, 1) := by decide +kernel
theorem dX7_vatsOn_33 : decode cX7_vatsOn 33 = .ok (.ireturn, 1) := by decide +kernel
theorem dX7_rule_0 : decode cX7_rule 0 = .ok (.iload_n 1, 1) := by decide +kernel
theorem dX7_rule_1 : decode cX7_rule 1 = .ok (.tableswitch 77 0 5 #[39, 44, 49, 57, 65, 71], 39) := by decide +kernel
theorem dX7_rule_40 : decode cX7_rule 40 = .ok (.aload_n 0, 1) := by decide +kernel
theorem dX7_rule_41 : decode cX7_rule 41 = .ok (.getfield 142, 3) := by decide +kernel
theorem dX7_rule_44 : decode cX7_rule 44 = .ok (.ireturn, 1) := by decide +kernel
theorem dX7_rule_45 : decode cX7_rule 45 = .ok (.aload_n 0, 1) := by decide +kernel
theorem dX7_rule_46 : decode cX7_rule 46 = .ok (.getfield 145, 3) := by decide +kernel
theorem dX7_rule_49 : decode cX7_rule 49 = .ok (.ireturn, 1) := by decide +kernel
theorem dX7_rule_50 : decode cX7_rule 50 = .ok (.aload_n 0, 1) := by decide +kernel
theorem dX7_rule_51 : decode cX7_rule 51 = .ok (.getfield 7, 3) := by decide +kernel
theorem dX7_rule_54 : decode cX7_rule 54 = .ok (.bipush 53, 2) := by decide +kernel
theorem dX7_rule_56 : decode cX7_rule 56 = .ok (.iaload, 1) := by decide +kernel
theorem dX7_rule_57 : decode cX7_rule 57 = .ok (.ireturn, 1) := by decide +kernel
theorem dX7_rule_58 : decode cX7_rule 58 = .ok (.aload_n 0, 1) := by decide +kernel
theorem dX7_rule_59 : decode cX7_rule 59 = .ok (.getfield 7, 3) := by decide +kernel
theorem dX7_rule_62 : decode cX7_rule 62 = .ok (.bipush 54, 2) := by decide +kernel
theorem dX7_rule_64 : decode cX7_rule 64 = .ok (.iaload, 1) := by decide +kernel
theorem dX7_rule_65 : decode cX7_rule 65 = .ok (.ireturn, 1) := by decide +kernel
theorem dX7_rule_66 : decode cX7_rule 66 = .ok (.aload_n 0, 1) := by decide +kernel
theorem dX7_rule_67 : decode cX7_rule 67 = .ok (.iconst 0, 1) := by decide +kernel
theorem dX7_rule_68 : decode cX7_rule 68 = .ok (.invokevirtual 170, 3) := by decide +kernel
theorem dX7_rule_71 : decode cX7_rule 71 = .ok (.ireturn, 1) := by decide +kernel
theorem dX7_rule_72 : decode cX7_rule 72 = .ok (.aload_n 0, 1) := by decide +kernel
theorem dX7_rule_73 : decode cX7_rule 73 = .ok (.iconst 0, 1) := by decide +kernel
theorem dX7_rule_74 : decode cX7_rule 74 = .ok (.invokevirtual 173, 3) := by decide +kernel
theorem dX7_rule_77 : decode cX7_rule 77 = .ok (.ireturn, 1) := by decide +kernel
theorem dX7_rule_78 : decode cX7_rule 78 = .ok (.iconst (-1), 1) := by decide +kernel
theorem dX7_rule_79 : decode cX7_rule 79 = .ok (.ireturn, 1) := by decide +kernel
theorem dX7_colour_0 : decode cX7_colour 0 = .ok (.aload_n 0, 1) := by decide +kernel
theorem dX7_colour_1 : decode cX7_colour 1 = .ok (.iload_n 1, 1) := by decide +kernel
theorem dX7_colour_2 : decode cX7_colour 2 = .ok (.invokevirtual 176, 3) := by decide +kernel
theorem dX7_colour_5 : decode cX7_colour 5 = .ok (.ifCond .eq 15, 3) := by decide +kernel
theorem dX7_colour_8 : decode cX7_colour 8 = .ok (.iload_n 2, 1) := by decide +kernel
theorem dX7_colour_9 : decode cX7_colour 9 = .ok (.i2l, 1) := by decide +kernel
theorem dX7_colour_10 : decode cX7_colour 10 = .ok (.lconst 0, 1) := by decide +kernel
theorem dX7_colour_11 : decode cX7_colour 11 = .ok (.ldc2_w 180, 3) := by decide +kernel
theorem dX7_colour_14 : decode cX7_colour 14 = .ok (.invokestatic 55, 3) := by decide +kernel
theorem dX7_colour_17 : decode cX7_colour 17 = .ok (.ifCond .ne 5, 3) := by decide +kernel
theorem dX7_colour_20 : decode cX7_colour 20 = .ok (.iconst (-1), 1) := by decide +kernel
theorem dX7_colour_21 : decode cX7_colour 21 = .ok (.ireturn, 1) := by decide +kernel
theorem dX7_colour_22 : decode cX7_colour 22 = .ok (.iconst 0, 1) := by decide +kernel
theorem dX7_colour_23 : decode cX7_colour 23 = .ok (.istore_n 3, 1) := by decide +kernel
theorem dX7_colour_24 : decode cX7_colour 24 = .ok (.iconst 0, 1) := by decide +kernel
theorem dX7_colour_25 : decode cX7_colour 25 = .ok (.istore 4, 2) := by decide +kernel
theorem dX7_colour_27 : decode cX7_colour 27 = .ok (.iload 4, 2) := by decide +kernel
theorem dX7_colour_29 : decode cX7_colour 29 = .ok (.aload_n 0, 1) := by decide +kernel
theorem dX7_colour_30 : decode cX7_colour 30 = .ok (.getfield 145, 3) := by decide +kernel
theorem dX7_colour_33 : decode cX7_colour 33 = .ok (.if_icmp .ge 26, 3) := by decide +kernel
theorem dX7_colour_36 : decode cX7_colour 36 = .ok (.iload_n 3, 1) := by decide +kernel
theorem dX7_colour_37 : decode cX7_colour 37 = .ok (.aload_n 0, 1) := by decide +kernel
theorem dX7_colour_38 : decode cX7_colour 38 = .ok (.getfield 7, 3) := by decide +kernel
theorem dX7_colour_41 : decode cX7_colour 41 = .ok (.bipush 33, 2) := by decide +kernel
theorem dX7_colour_43 : decode cX7_colour 43 = .ok (.iconst 5, 1) := by decide +kernel
theorem dX7_colour_44 : decode cX7_colour 44 = .ok (.iload 4, 2) := by decide +kernel
theorem dX7_colour_46 : decode cX7_colour 46 = .ok (.imul, 1) := by decide +kernel
theorem dX7_colour_47 : decode cX7_colour 47 = .ok (.iadd, 1) := by decide +kernel
theorem dX7_colour_48 : decode cX7_colour 48 = .ok (.iload_n 1, 1) := by decide +kernel
theorem dX7_colour_49 : decode cX7_colour 49 = .ok (.iadd, 1) := by decide +kernel
theorem dX7_colour_50 : decode cX7_colour 50 = .ok (.iaload, 1) := by decide +kernel
theorem dX7_colour_51 : decode cX7_colour 51 = .ok (.iadd, 1) := by decide +kernel
theorem dX7_colour_52 : decode cX7_colour 52 = .ok (.istore_n 3, 1) := by decide +kernel
theorem dX7_colour_53 : decode cX7_colour 53 = .ok (.iinc 4 1, 3) := by decide +kernel
theorem dX7_colour_56 : decode cX7_colour 56 = .ok (.goto (-29), 3) := by decide +kernel
theorem dX7_colour_59 : decode cX7_colour 59 = .ok (.iload_n 2, 1) := by decide +kernel
theorem dX7_colour_60 : decode cX7_colour 60 = .ok (.iconst 5, 1) := by decide +kernel
theorem dX7_colour_61 : decode cX7_colour 61 = .ok (.if_icmp .ge 16, 3) := by decide +kernel
theorem dX7_colour_64 : decode cX7_colour 64 = .ok (.aload_n 0, 1) := by decide +kernel
theorem dX7_colour_65 : decode cX7_colour 65 = .ok (.getfield 7, 3) := by decide +kernel
theorem dX7_colour_68 : decode cX7_colour 68 = .ok (.iconst 5, 1) := by decide +kernel
theorem dX7_colour_69 : decode cX7_colour 69 = .ok (.iload_n 2, 1) := by decide +kernel
theorem dX7_colour_70 : decode cX7_colour 70 = .ok (.imul, 1) := by decide +kernel
theorem dX7_colour_71 : decode cX7_colour 71 = .ok (.iload_n 1, 1) := by decide +kernel
theorem dX7_colour_72 : decode cX7_colour 72 = .ok (.iadd, 1) := by decide +kernel
theorem dX7_colour_73 : decode cX7_colour 73 = .ok (.iaload, 1) := by decide +kernel
theorem dX7_colour_74 : decode cX7_colour 74 = .ok (.goto 18, 3) := by decide +kernel
theorem dX7_colour_77 : decode cX7_colour 77 = .ok (.iload_n 2, 1) := by decide +kernel
theorem dX7_colour_78 : decode cX7_colour 78 = .ok (.iconst 5, 1) := by decide +kernel
theorem dX7_colour_79 : decode cX7_colour 79 = .ok (.if_icmp .ne 12, 3) := by decide +kernel
theorem dX7_colour_82 : decode cX7_colour 82 = .ok (.aload_n 0, 1) := by decide +kernel
theorem dX7_colour_83 : decode cX7_colour 83 = .ok (.iconst 0, 1) := by decide +kernel
theorem dX7_colour_84 : decode cX7_colour 84 = .ok (.iload_n 1, 1) := by decide +kernel
theorem dX7_colour_85 : decode cX7_colour 85 = .ok (.invokevirtual 157, 3) := by decide +kernel
theorem dX7_colour_88 : decode cX7_colour 88 = .ok (.goto 4, 3) := by decide +kernel
theorem dX7_colour_91 : decode cX7_colour 91 = .ok (.iload_n 3, 1) := by decide +kernel
theorem dX7_colour_92 : decode cX7_colour 92 = .ok (.ireturn, 1) := by decide +kernel
theorem dX7_one_0 : decode cX7_one 0 = .ok (.aload_n 0, 1) := by decide +kernel
theorem dX7_one_1 : decode cX7_one 1 = .ok (.iload_n 1, 1) := by decide +kernel
theorem dX7_one_2 : decode cX7_one 2 = .ok (.invokevirtual 182, 3) := by decide +kernel
theorem dX7_one_5 : decode cX7_one 5 = .ok (.ifCond .eq 15, 3) := by decide +kernel
theorem dX7_one_8 : decode cX7_one 8 = .ok (.iload_n 2, 1) := by decide +kernel
theorem dX7_one_9 : decode cX7_one 9 = .ok (.i2l, 1) := by decide +kernel
theorem dX7_one_10 : decode cX7_one 10 = .ok (.lconst 0, 1) := by decide +kernel
theorem dX7_one_11 : decode cX7_one 11 = .ok (.ldc2_w 110, 3) := by decide +kernel
theorem dX7_one_14 : decode cX7_one 14 = .ok (.invokestatic 55, 3) := by decide +kernel
theorem dX7_one_17 : decode cX7_one 17 = .ok (.ifCond .ne 5, 3) := by decide +kernel
theorem dX7_one_20 : decode cX7_one 20 = .ok (.iconst (-1), 1) := by decide +kernel
theorem dX7_one_21 : decode cX7_one 21 = .ok (.ireturn, 1) := by decide +kernel
theorem dX7_one_22 : decode cX7_one 22 = .ok (.iconst 0, 1) := by decide +kernel
theorem dX7_one_23 : decode cX7_one 23 = .ok (.istore_n 3, 1) := by decide +kernel
theorem dX7_one_24 : decode cX7_one 24 = .ok (.iconst 0, 1) := by decide +kernel
theorem dX7_one_25 : decode cX7_one 25 = .ok (.istore 4, 2) := by decide +kernel
theorem dX7_one_27 : decode cX7_one 27 = .ok (.iload 4, 2) := by decide +kernel
theorem dX7_one_29 : decode cX7_one 29 = .ok (.aload_n 0, 1) := by decide +kernel
theorem dX7_one_30 : decode cX7_one 30 = .ok (.getfield 142, 3) := by decide +kernel
theorem dX7_one_33 : decode cX7_one 33 = .ok (.if_icmp .ge 34, 3) := by decide +kernel
theorem dX7_one_36 : decode cX7_one 36 = .ok (.iload_n 3, 1) := by decide +kernel
theorem dX7_one_37 : decode cX7_one 37 = .ok (.aload_n 0, 1) := by decide +kernel
theorem dX7_one_38 : decode cX7_one 38 = .ok (.iconst 0, 1) := by decide +kernel
theorem dX7_one_39 : decode cX7_one 39 = .ok (.iload 4, 2) := by decide +kernel
theorem dX7_one_41 : decode cX7_one 41 = .ok (.invokevirtual 157, 3) := by decide +kernel
theorem dX7_one_44 : decode cX7_one 44 = .ok (.aload_n 0, 1) := by decide +kernel
theorem dX7_one_45 : decode cX7_one 45 = .ok (.getfield 7, 3) := by decide +kernel
theorem dX7_one_48 : decode cX7_one 48 = .ok (.bipush 33, 2) := by decide +kernel
theorem dX7_one_50 : decode cX7_one 50 = .ok (.iconst 5, 1) := by decide +kernel
theorem dX7_one_51 : decode cX7_one 51 = .ok (.iload_n 1, 1) := by decide +kernel
theorem dX7_one_52 : decode cX7_one 52 = .ok (.imul, 1) := by decide +kernel
theorem dX7_one_53 : decode cX7_one 53 = .ok (.iadd, 1) := by decide +kernel
theorem dX7_one_54 : decode cX7_one 54 = .ok (.iload 4, 2) := by decide +kernel
theorem dX7_one_56 : decode cX7_one 56 = .ok (.iadd, 1) := by decide +kernel
theorem dX7_one_57 : decode cX7_one 57 = .ok (.iaload, 1) := by decide +kernel
theorem dX7_one_58 : decode cX7_one 58 = .ok (.imul, 1) := by decide +kernel
theorem dX7_one_59 : decode cX7_one 59 = .ok (.iadd, 1) := by decide +kernel
theorem dX7_one_60 : decode cX7_one 60 = .ok (.istore_n 3, 1) := by decide +kernel
theorem dX7_one_61 : decode cX7_one 61 = .ok (.iinc 4 1, 3) := by decide +kernel
theorem dX7_one_64 : decode cX7_one 64 = .ok (.goto (-37), 3) := by decide +kernel
theorem dX7_one_67 : decode cX7_one 67 = .ok (.iload_n 2, 1) := by decide +kernel
theorem dX7_one_68 : decode cX7_one 68 = .ok (.iconst 2, 1) := by decide +kernel
theorem dX7_one_69 : decode cX7_one 69 = .ok (.if_icmp .ge 19, 3) := by decide +kernel
theorem dX7_one_72 : decode cX7_one 72 = .ok (.aload_n 0, 1) := by decide +kernel
theorem dX7_one_73 : decode cX7_one 73 = .ok (.getfield 7, 3) := by decide +kernel
theorem dX7_one_76 : decode cX7_one 76 = .ok (.bipush 25, 2) := by decide +kernel
theorem dX7_one_78 : decode cX7_one 78 = .ok (.iconst 4, 1) := by decide +kernel
theorem dX7_one_79 : decode cX7_one 79 = .ok (.iload_n 2, 1) := by decide +kernel
theorem dX7_one_80 : decode cX7_one 80 = .ok (.imul, 1) := by decide +kernel
theorem dX7_one_81 : decode cX7_one 81 = .ok (.iadd, 1) := by decide +kernel
theorem dX7_one_82 : decode cX7_one 82 = .ok (.iload_n 1, 1) := by decide +kernel
theorem dX7_one_83 : decode cX7_one 83 = .ok (.iadd, 1) := by decide +kernel
theorem dX7_one_84 : decode cX7_one 84 = .ok (.iaload, 1) := by decide +kernel
theorem dX7_one_85 : decode cX7_one 85 = .ok (.goto 32, 3) := by decide +kernel
theorem dX7_one_88 : decode cX7_one 88 = .ok (.iload_n 2, 1) := by decide +kernel
theorem dX7_one_89 : decode cX7_one 89 = .ok (.iconst 2, 1) := by decide +kernel
theorem dX7_one_90 : decode cX7_one 90 = .ok (.if_icmp .ne 12, 3) := by decide +kernel
theorem dX7_one_93 : decode cX7_one 93 = .ok (.aload_n 0, 1) := by decide +kernel
theorem dX7_one_94 : decode cX7_one 94 = .ok (.iconst 0, 1) := by decide +kernel
theorem dX7_one_95 : decode cX7_one 95 = .ok (.iload_n 1, 1) := by decide +kernel
theorem dX7_one_96 : decode cX7_one 96 = .ok (.invokevirtual 185, 3) := by decide +kernel
theorem dX7_one_99 : decode cX7_one 99 = .ok (.goto 18, 3) := by decide +kernel
theorem dX7_one_102 : decode cX7_one 102 = .ok (.iload_n 2, 1) := by decide +kernel
theorem dX7_one_103 : decode cX7_one 103 = .ok (.iconst 3, 1) := by decide +kernel
theorem dX7_one_104 : decode cX7_one 104 = .ok (.if_icmp .ne 12, 3) := by decide +kernel
theorem dX7_one_107 : decode cX7_one 107 = .ok (.aload_n 0, 1) := by decide +kernel
theorem dX7_one_108 : decode cX7_one 108 = .ok (.iconst 0, 1) := by decide +kernel
theorem dX7_one_109 : decode cX7_one 109 = .ok (.iload_n 1, 1) := by decide +kernel
theorem dX7_one_110 : decode cX7_one 110 = .ok (.invokevirtual 151, 3) := by decide +kernel
theorem dX7_one_113 : decode cX7_one 113 = .ok (.goto 4, 3) := by decide +kernel
theorem dX7_one_116 : decode cX7_one 116 = .ok (.iload_n 3, 1) := by decide +kernel
theorem dX7_one_117 : decode cX7_one 117 = .ok (.ireturn, 1) := by decide +kernel
theorem dX7_holds_0 : decode cX7_holds 0 = .ok (.aload_n 0, 1) := by decide +kernel
theorem dX7_holds_1 : decode cX7_holds 1 = .ok (.iload_n 1, 1) := by decide +kernel
theorem dX7_holds_2 : decode cX7_holds 2 = .ok (.invokevirtual 182, 3) := by decide +kernel
theorem dX7_holds_5 : decode cX7_holds 5 = .ok (.ifCond .eq 27, 3) := by decide +kernel
theorem dX7_holds_8 : decode cX7_holds 8 = .ok (.aload_n 0, 1) := by decide +kernel
theorem dX7_holds_9 : decode cX7_holds 9 = .ok (.iload_n 2, 1) := by decide +kernel
theorem dX7_holds_10 : decode cX7_holds 10 = .ok (.invokevirtual 176, 3) := by decide +kernel
theorem dX7_holds_13 : decode cX7_holds 13 = .ok (.ifCond .eq 19, 3) := by decide +kernel
theorem dX7_holds_16 : decode cX7_holds 16 = .ok (.aload_n 0, 1) := by decide +kernel
theorem dX7_holds_17 : decode cX7_holds 17 = .ok (.getfield 7, 3) := by decide +kernel
theorem dX7_holds_20 : decode cX7_holds 20 = .ok (.bipush 33, 2) := by decide +kernel
theorem dX7_holds_22 : decode cX7_holds 22 = .ok (.iconst 5, 1) := by decide +kernel
theorem dX7_holds_23 : decode cX7_holds 23 = .ok (.iload_n 1, 1) := by decide +kernel
theorem dX7_holds_24 : decode cX7_holds 24 = .ok (.imul, 1) := by decide +kernel
theorem dX7_holds_25 : decode cX7_holds 25 = .ok (.iadd, 1) := by decide +kernel
theorem dX7_holds_26 : decode cX7_holds 26 = .ok (.iload_n 2, 1) := by decide +kernel
theorem dX7_holds_27 : decode cX7_holds 27 = .ok (.iadd, 1) := by decide +kernel
theorem dX7_holds_28 : decode cX7_holds 28 = .ok (.iaload, 1) := by decide +kernel
theorem dX7_holds_29 : decode cX7_holds 29 = .ok (.goto 4, 3) := by decide +kernel
theorem dX7_holds_32 : decode cX7_holds 32 = .ok (.iconst (-1), 1) := by decide +kernel
theorem dX7_holds_33 : decode cX7_holds 33 = .ok (.ireturn, 1) := by decide +kernel
theorem dX7_off_0 : decode cX7_off 0 = .ok (.aload_n 0, 1) := by decide +kernel
theorem dX7_off_1 : decode cX7_off 1 = .ok (.iload_n 1, 1) := by decide +kernel
theorem dX7_off_2 : decode cX7_off 2 = .ok (.invokevirtual 182, 3) := by decide +kernel
theorem dX7_off_5 : decode cX7_off 5 = .ok (.ifCond .eq 28, 3) := by decide +kernel
theorem dX7_off_8 : decode cX7_off 8 = .ok (.iload_n 2, 1) := by decide +kernel
theorem dX7_off_9 : decode cX7_off 9 = .ok (.i2l, 1) := by decide +kernel
theorem dX7_off_10 : decode cX7_off 10 = .ok (.lconst 0, 1) := by decide +kernel
theorem dX7_off_11 : decode cX7_off 11 = .ok (.ldc2_w 188, 3) := by decide +kernel
theorem dX7_off_14 : decode cX7_off 14 = .ok (.invokestatic 55, 3) := by decide +kernel
theorem dX7_off_17 : decode cX7_off 17 = .ok (.ifCond .eq 16, 3) := by decide +kernel
theorem dX7_off_20 : decode cX7_off 20 = .ok (.aload_n 0, 1) := by decide +kernel
theorem dX7_off_21 : decode cX7_off 21 = .ok (.iconst 0, 1) := by decide +kernel
theorem dX7_off_22 : decode cX7_off 22 = .ok (.iload_n 1, 1) := by decide +kernel
theorem dX7_off_23 : decode cX7_off 23 = .ok (.invokevirtual 185, 3) := by decide +kernel
theorem dX7_off_26 : decode cX7_off 26 = .ok (.iload_n 2, 1) := by decide +kernel
theorem dX7_off_27 : decode cX7_off 27 = .ok (.invokestatic 190, 3) := by decide +kernel
theorem dX7_off_30 : decode cX7_off 30 = .ok (.goto 4, 3) := by decide +kernel
theorem dX7_off_33 : decode cX7_off 33 = .ok (.iconst (-1), 1) := by decide +kernel
theorem dX7_off_34 : decode cX7_off 34 = .ok (.ireturn, 1) := by decide +kernel
theorem dX7_puts_0 : decode cX7_puts 0 = .ok (.iload_n 1, 1) := by decide +kernel
theorem dX7_puts_1 : decode cX7_puts 1 = .ok (.ifCond .ne 5, 3) := by decide +kernel
theorem dX7_puts_4 : decode cX7_puts 4 = .ok (.iconst (-1), 1) := by decide +kernel
theorem dX7_puts_5 : decode cX7_puts 5 = .ok (.ireturn, 1) := by decide +kernel
theorem dX7_puts_6 : decode cX7_puts 6 = .ok (.aload_n 0, 1) := by decide +kernel
theorem dX7_puts_7 : decode cX7_puts 7 = .ok (.getfield 7, 3) := by decide +kernel
theorem dX7_puts_10 : decode cX7_puts 10 = .ok (.iload_n 2, 1) := by decide +kernel
theorem dX7_puts_11 : decode cX7_puts 11 = .ok (.iaload, 1) := by decide +kernel
theorem dX7_puts_12 : decode cX7_puts 12 = .ok (.istore 4, 2) := by decide +kernel
theorem dX7_puts_14 : decode cX7_puts 14 = .ok (.aload_n 0, 1) := by decide +kernel
theorem dX7_puts_15 : decode cX7_puts 15 = .ok (.getfield 7, 3) := by decide +kernel
theorem dX7_puts_18 : decode cX7_puts 18 = .ok (.iload_n 2, 1) := by decide +kernel
theorem dX7_puts_19 : decode cX7_puts 19 = .ok (.iload_n 3, 1) := by decide +kernel
theorem dX7_puts_20 : decode cX7_puts 20 = .ok (.iastore, 1) := by decide +kernel
theorem dX7_puts_21 : decode cX7_puts 21 = .ok (.iload 4, 2) := by decide +kernel
theorem dX7_puts_23 : decode cX7_puts 23 = .ok (.ireturn, 1) := by decide +kernel
theorem dX7_alter_0 : decode cX7_alter 0 = .ok (.iload_n 2, 1) := by decide +kernel
theorem dX7_alter_1 : decode cX7_alter 1 = .ok (.ifCond .ne 7, 3) := by decide +kernel
theorem dX7_alter_4 : decode cX7_alter 4 = .ok (.iconst 3, 1) := by decide +kernel
theorem dX7_alter_5 : decode cX7_alter 5 = .ok (.goto 15, 3) := by decide +kernel
theorem dX7_alter_8 : decode cX7_alter 8 = .ok (.iload_n 2, 1) := by decide +kernel
theorem dX7_alter_9 : decode cX7_alter 9 = .ok (.iconst 4, 1) := by decide +kernel
theorem dX7_alter_10 : decode cX7_alter 10 = .ok (.if_icmp .ne 8, 3) := by decide +kernel
theorem dX7_alter_13 : decode cX7_alter 13 = .ok (.bipush 99, 2) := by decide +kernel
theorem dX7_alter_15 : decode cX7_alter 15 = .ok (.goto 5, 3) := by decide +kernel
theorem dX7_alter_18 : decode cX7_alter 18 = .ok (.bipush 9, 2) := by decide +kernel
theorem dX7_alter_20 : decode cX7_alter 20 = .ok (.istore 4, 2) := by decide +kernel
theorem dX7_alter_22 : decode cX7_alter 22 = .ok (.aload_n 0, 1) := by decide +kernel
theorem dX7_alter_23 : decode cX7_alter 23 = .ok (.aload_n 0, 1) := by decide +kernel
theorem dX7_alter_24 : decode cX7_alter 24 = .ok (.iload_n 1, 1) := by decide +kernel
theorem dX7_alter_25 : decode cX7_alter 25 = .ok (.invokevirtual 176, 3) := by decide +kernel
theorem dX7_alter_28 : decode cX7_alter 28 = .ok (.ifCond .eq 31, 3) := by decide +kernel
theorem dX7_alter_31 : decode cX7_alter 31 = .ok (.iload_n 2, 1) := by decide +kernel
theorem dX7_alter_32 : decode cX7_alter 32 = .ok (.i2l, 1) := by decide +kernel
theorem dX7_alter_33 : decode cX7_alter 33 = .ok (.lconst 0, 1) := by decide +kernel
theorem dX7_alter_34 : decode cX7_alter 34 = .ok (.ldc2_w 110, 3) := by decide +kernel
theorem dX7_alter_37 : decode cX7_alter 37 = .ok (.invokestatic 55, 3) := by decide +kernel
theorem dX7_alter_40 : decode cX7_alter 40 = .ok (.ifCond .eq 19, 3) := by decide +kernel
theorem dX7_alter_43 : decode cX7_alter 43 = .ok (.iload_n 3, 1) := by decide +kernel
theorem dX7_alter_44 : decode cX7_alter 44 = .ok (.i2l, 1) := by decide +kernel
theorem dX7_alter_45 : decode cX7_alter 45 = .ok (.lconst 0, 1) := by decide +kernel
theorem dX7_alter_46 : decode cX7_alter 46 = .ok (.iload 4, 2) := by decide +kernel
theorem dX7_alter_48 : decode cX7_alter 48 = .ok (.i2l, 1) := by decide +kernel
theorem dX7_alter_49 : decode cX7_alter 49 = .ok (.invokestatic 55, 3) := by decide +kernel
theorem dX7_alter_52 : decode cX7_alter 52 = .ok (.ifCond .eq 7, 3) := by decide +kernel
theorem dX7_alter_55 : decode cX7_alter 55 = .ok (.iconst 1, 1) := by decide +kernel
theorem dX7_alter_56 : decode cX7_alter 56 = .ok (.goto 4, 3) := by decide +kernel
theorem dX7_alter_59 : decode cX7_alter 59 = .ok (.iconst 0, 1) := by decide +kernel
theorem dX7_alter_60 : decode cX7_alter 60 = .ok (.iconst 5, 1) := by decide +kernel
theorem dX7_alter_61 : decode cX7_alter 61 = .ok (.iload_n 2, 1) := by decide +kernel
theorem dX7_alter_62 : decode cX7_alter 62 = .ok (.imul, 1) := by decide +kernel
theorem dX7_alter_63 : decode cX7_alter 63 = .ok (.iload_n 1, 1) := by decide +kernel
theorem dX7_alter_64 : decode cX7_alter 64 = .ok (.iadd, 1) := by decide +kernel
theorem dX7_alter_65 : decode cX7_alter 65 = .ok (.iload_n 3, 1) := by decide +kernel
theorem dX7_alter_66 : decode cX7_alter 66 = .ok (.invokevirtual 193, 3) := by decide +kernel
theorem dX7_alter_69 : decode cX7_alter 69 = .ok (.ireturn, 1) := by decide +kernel
theorem dX7_pay_0 : decode cX7_pay 0 = .ok (.aload_n 0, 1) := by decide +kernel
theorem dX7_pay_1 : decode cX7_pay 1 = .ok (.aload_n 0, 1) := by decide +kernel
theorem dX7_pay_2 : decode cX7_pay 2 = .ok (.iload_n 1, 1) := by decide +kernel
theorem dX7_pay_3 : decode cX7_pay 3 = .ok (.invokevirtual 182, 3) := by decide +kernel
theorem dX7_pay_6 : decode cX7_pay 6 = .ok (.ifCond .eq 39, 3) := by decide +kernel
theorem dX7_pay_9 : decode cX7_pay 9 = .ok (.iload_n 2, 1) := by decide +kernel
theorem dX7_pay_10 : decode cX7_pay 10 = .ok (.i2l, 1) := by decide +kernel
theorem dX7_pay_11 : decode cX7_pay 11 = .ok (.lconst 0, 1) := by decide +kernel
theorem dX7_pay_12 : decode cX7_pay 12 = .ok (.lconst 1, 1) := by decide +kernel
theorem dX7_pay_13 : decode cX7_pay 13 = .ok (.invokestatic 55, 3) := by decide +kernel
theorem dX7_pay_16 : decode cX7_pay 16 = .ok (.ifCond .eq 29, 3) := by decide +kernel
theorem dX7_pay_19 : decode cX7_pay 19 = .ok (.iload_n 3, 1) := by decide +kernel
theorem dX7_pay_20 : decode cX7_pay 20 = .ok (.i2l, 1) := by decide +kernel
theorem dX7_pay_21 : decode cX7_pay 21 = .ok (.lconst 0, 1) := by decide +kernel
theorem dX7_pay_22 : decode cX7_pay 22 = .ok (.iload_n 2, 1) := by decide +kernel
theorem dX7_pay_23 : decode cX7_pay 23 = .ok (.ifCond .ne 9, 3) := by decide +kernel
theorem dX7_pay_26 : decode cX7_pay 26 = .ok (.ldc2_w 188, 3) := by decide +kernel
theorem dX7_pay_29 : decode cX7_pay 29 = .ok (.goto 6, 3) := by decide +kernel
theorem dX7_pay_32 : decode cX7_pay 32 = .ok (.ldc2_w 197, 3) := by decide +kernel
theorem dX7_pay_35 : decode cX7_pay 35 = .ok (.invokestatic 55, 3) := by decide +kernel
theorem dX7_pay_38 : decode cX7_pay 38 = .ok (.ifCond .eq 7, 3) := by decide +kernel
theorem dX7_pay_41 : decode cX7_pay 41 = .ok (.iconst 1, 1) := by decide +kernel
theorem dX7_pay_42 : decode cX7_pay 42 = .ok (.goto 4, 3) := by decide +kernel
theorem dX7_pay_45 : decode cX7_pay 45 = .ok (.iconst 0, 1) := by decide +kernel
theorem dX7_pay_46 : decode cX7_pay 46 = .ok (.bipush 25, 2) := by decide +kernel
theorem dX7_pay_48 : decode cX7_pay 48 = .ok (.iconst 4, 1) := by decide +kernel
theorem dX7_pay_49 : decode cX7_pay 49 = .ok (.iload_n 2, 1) := by decide +kernel
theorem dX7_pay_50 : decode cX7_pay 50 = .ok (.imul, 1) := by decide +kernel
theorem dX7_pay_51 : decode cX7_pay 51 = .ok (.iadd, 1) := by decide +kernel
theorem dX7_pay_52 : decode cX7_pay 52 = .ok (.iload_n 1, 1) := by decide +kernel
theorem dX7_pay_53 : decode cX7_pay 53 = .ok (.iadd, 1) := by decide +kernel
theorem dX7_pay_54 : decode cX7_pay 54 = .ok (.iload_n 3, 1) := by decide +kernel
theorem dX7_pay_55 : decode cX7_pay 55 = .ok (.invokevirtual 193, 3) := by decide +kernel
theorem dX7_pay_58 : decode cX7_pay 58 = .ok (.ireturn, 1) := by decide +kernel
theorem dX7_lendsOn_0 : decode cX7_lendsOn 0 = .ok (.aload_n 0, 1) := by decide +kernel
theorem dX7_lendsOn_1 : decode cX7_lendsOn 1 = .ok (.iload_n 2, 1) := by decide +kernel
theorem dX7_lendsOn_2 : decode cX7_lendsOn 2 = .ok (.invokevirtual 182, 3) := by decide +kernel
theorem dX7_lendsOn_5 : decode cX7_lendsOn 5 = .ok (.ifCond .eq 24, 3) := by decide +kernel
theorem dX7_lendsOn_8 : decode cX7_lendsOn 8 = .ok (.aload_n 0, 1) := by decide +kernel
theorem dX7_lendsOn_9 : decode cX7_lendsOn 9 = .ok (.iload_n 3, 1) := by decide +kernel
theorem dX7_lendsOn_10 : decode cX7_lendsOn 10 = .ok (.invokevirtual 176, 3) := by decide +kernel
theorem dX7_lendsOn_13 : decode cX7_lendsOn 13 = .ok (.ifCond .eq 16, 3) := by decide +kernel
theorem dX7_lendsOn_16 : decode cX7_lendsOn 16 = .ok (.iload 4, 2) := by decide +kernel
theorem dX7_lendsOn_18 : decode cX7_lendsOn 18 = .ok (.i2l, 1) := by decide +kernel
theorem dX7_lendsOn_19 : decode cX7_lendsOn 19 = .ok (.lconst 1, 1) := by decide +kernel
theorem dX7_lendsOn_20 : decode cX7_lendsOn 20 = .ok (.ldc2_w 197, 3) := by decide +kernel
theorem dX7_lendsOn_23 : decode cX7_lendsOn 23 = .ok (.invokestatic 55, 3) := by decide +kernel
theorem dX7_lendsOn_26 : decode cX7_lendsOn 26 = .ok (.ifCond .ne 5, 3) := by decide +kernel
theorem dX7_lendsOn_29 : decode cX7_lendsOn 29 = .ok (.iconst (-1), 1) := by decide +kernel
theorem dX7_lendsOn_30 : decode cX7_lendsOn 30 = .ok (.ireturn, 1) := by decide +kernel
theorem dX7_lendsOn_31 : decode cX7_lendsOn 31 = .ok (.iload_n 1, 1) := by decide +kernel
theorem dX7_lendsOn_32 : decode cX7_lendsOn 32 = .ok (.bipush 33, 2) := by decide +kernel
theorem dX7_lendsOn_34 : decode cX7_lendsOn 34 = .ok (.iadd, 1) := by decide +kernel
theorem dX7_lendsOn_35 : decode cX7_lendsOn 35 = .ok (.iconst 5, 1) := by decide +kernel
theorem dX7_lendsOn_36 : decode cX7_lendsOn 36 = .ok (.iload_n 2, 1) := by decide +kernel
theorem dX7_lendsOn_37 : decode cX7_lendsOn 37 = .ok (.imul, 1) := by decide +kernel
theorem dX7_lendsOn_38 : decode cX7_lendsOn 38 = .ok (.iadd, 1) := by decide +kernel
theorem dX7_lendsOn_39 : decode cX7_lendsOn 39 = .ok (.iload_n 3, 1) := by decide +kernel
theorem dX7_lendsOn_40 : decode cX7_lendsOn 40 = .ok (.iadd, 1) := by decide +kernel
theorem dX7_lendsOn_41 : decode cX7_lendsOn 41 = .ok (.istore 5, 2) := by decide +kernel
theorem dX7_lendsOn_43 : decode cX7_lendsOn 43 = .ok (.aload_n 0, 1) := by decide +kernel
theorem dX7_lendsOn_44 : decode cX7_lendsOn 44 = .ok (.getfield 7, 3) := by decide +kernel
theorem dX7_lendsOn_47 : decode cX7_lendsOn 47 = .ok (.iload_n 1, 1) := by decide +kernel
theorem dX7_lendsOn_48 : decode cX7_lendsOn 48 = .ok (.bipush 20, 2) := by decide +kernel
theorem dX7_lendsOn_50 : decode cX7_lendsOn 50 = .ok (.iadd, 1) := by decide +kernel
theorem dX7_lendsOn_51 : decode cX7_lendsOn 51 = .ok (.iload_n 3, 1) := by decide +kernel
theorem dX7_lendsOn_52 : decode cX7_lendsOn 52 = .ok (.iadd, 1) := by decide +kernel
theorem dX7_lendsOn_53 : decode cX7_lendsOn 53 = .ok (.iaload, 1) := by decide +kernel
theorem dX7_lendsOn_54 : decode cX7_lendsOn 54 = .ok (.iload 4, 2) := by decide +kernel
theorem dX7_lendsOn_56 : decode cX7_lendsOn 56 = .ok (.if_icmp .lt 18, 3) := by decide +kernel
theorem dX7_lendsOn_59 : decode cX7_lendsOn 59 = .ok (.aload_n 0, 1) := by decide +kernel
theorem dX7_lendsOn_60 : decode cX7_lendsOn 60 = .ok (.getfield 7, 3) := by decide +kernel
theorem dX7_lendsOn_63 : decode cX7_lendsOn 63 = .ok (.iload 5, 2) := by decide +kernel
theorem dX7_lendsOn_65 : decode cX7_lendsOn 65 = .ok (.iaload, 1) := by decide +kernel
theorem dX7_lendsOn_66 : decode cX7_lendsOn 66 = .ok (.iload 4, 2) := by decide +kernel
theorem dX7_lendsOn_68 : decode cX7_lendsOn 68 = .ok (.iadd, 1) := by decide +kernel
theorem dX7_lendsOn_69 : decode cX7_lendsOn 69 = .ok (.bipush 99, 2) := by decide +kernel
theorem dX7_lendsOn_71 : decode cX7_lendsOn 71 = .ok (.if_icmp .le 6, 3) := by decide +kernel
theorem dX7_lendsOn_74 : decode cX7_lendsOn 74 = .ok (.bipush (-2), 2) := by decide +kernel
theorem dX7_lendsOn_76 : decode cX7_lendsOn 76 = .ok (.ireturn, 1) := by decide +kernel
theorem dX7_lendsOn_77 : decode cX7_lendsOn 77 = .ok (.aload_n 0, 1) := by decide +kernel
theorem dX7_lendsOn_78 : decode cX7_lendsOn 78 = .ok (.getfield 7, 3) := by decide +kernel
theorem dX7_lendsOn_81 : decode cX7_lendsOn 81 = .ok (.iload_n 1, 1) := by decide +kernel
theorem dX7_lendsOn_82 : decode cX7_lendsOn 82 = .ok (.bipush 20, 2) := by decide +kernel
theorem dX7_lendsOn_84 : decode cX7_lendsOn 84 = .ok (.iadd, 1) := by decide +kernel
theorem dX7_lendsOn_85 : decode cX7_lendsOn 85 = .ok (.iload_n 3, 1) := by decide +kernel
theorem dX7_lendsOn_86 : decode cX7_lendsOn 86 = .ok (.iadd, 1) := by decide +kernel
theorem dX7_lendsOn_87 : decode cX7_lendsOn 87 = .ok (.dup2, 1) := by decide +kernel
theorem dX7_lendsOn_88 : decode cX7_lendsOn 88 = .ok (.iaload, 1) := by decide +kernel
theorem dX7_lendsOn_89 : decode cX7_lendsOn 89 = .ok (.iload 4, 2) := by decide +kernel
theorem dX7_lendsOn_91 : decode cX7_lendsOn 91 = .ok (.isub, 1) := by decide +kernel
theorem dX7_lendsOn_92 : decode cX7_lendsOn 92 = .ok (.iastore, 1) := by decide +kernel
theorem dX7_lendsOn_93 : decode cX7_lendsOn 93 = .ok (.aload_n 0, 1) := by decide +kernel
theorem dX7_lendsOn_94 : decode cX7_lendsOn 94 = .ok (.getfield 7, 3) := by decide +kernel
theorem dX7_lendsOn_97 : decode cX7_lendsOn 97 = .ok (.iload 5, 2) := by decide +kernel
theorem dX7_lendsOn_99 : decode cX7_lendsOn 99 = .ok (.dup2, 1) := by decide +kernel
theorem dX7_lendsOn_100 : decode cX7_lendsOn 100 = .ok (.iaload, 1) := by decide +kernel
theorem dX7_lendsOn_101 : decode cX7_lendsOn 101 = .ok (.iload 4, 2) := by decide +kernel
theorem dX7_lendsOn_103 : decode cX7_lendsOn 103 = .ok (.iadd, 1) := by decide +kernel
theorem dX7_lendsOn_104 : decode cX7_lendsOn 104 = .ok (.iastore, 1) := by decide +kernel
theorem dX7_lendsOn_105 : decode cX7_lendsOn 105 = .ok (.aload_n 0, 1) := by decide +kernel
theorem dX7_lendsOn_106 : decode cX7_lendsOn 106 = .ok (.getfield 7, 3) := by decide +kernel
theorem dX7_lendsOn_109 : decode cX7_lendsOn 109 = .ok (.iload 5, 2) := by decide +kernel
theorem dX7_lendsOn_111 : decode cX7_lendsOn 111 = .ok (.iaload, 1) := by decide +kernel
theorem dX7_lendsOn_112 : decode cX7_lendsOn 112 = .ok (.ireturn, 1) := by decide +kernel
theorem dX7_lend_0 : decode cX7_lend 0 = .ok (.aload_n 0, 1) := by decide +kernel
theorem dX7_lend_1 : decode cX7_lend 1 = .ok (.iconst 0, 1) := by decide +kernel
theorem dX7_lend_2 : decode cX7_lend 2 = .ok (.iload_n 1, 1) := by decide +kernel
theorem dX7_lend_3 : decode cX7_lend 3 = .ok (.iload_n 2, 1) := by decide +kernel
theorem dX7_lend_4 : decode cX7_lend 4 = .ok (.iload_n 3, 1) := by decide +kernel
theorem dX7_lend_5 : decode cX7_lend 5 = .ok (.invokevirtual 199, 3) := by decide +kernel
theorem dX7_lend_8 : decode cX7_lend 8 = .ok (.ireturn, 1) := by decide +kernel
theorem dX7_bringsOn_0 : decode cX7_bringsOn 0 = .ok (.aload_n 0, 1) := by decide +kernel
theorem dX7_bringsOn_1 : decode cX7_bringsOn 1 = .ok (.getfield 7, 3) := by decide +kernel
theorem dX7_bringsOn_4 : decode cX7_bringsOn 4 = .ok (.iload_n 1, 1) := by decide +kernel
theorem dX7_bringsOn_5 : decode cX7_bringsOn 5 = .ok (.bipush 20, 2) := by decide +kernel
theorem dX7_bringsOn_7 : decode cX7_bringsOn 7 = .ok (.iadd, 1) := by decide +kernel
theorem dX7_bringsOn_8 : decode cX7_bringsOn 8 = .ok (.iload_n 3, 1) := by decide +kernel
theorem dX7_bringsOn_9 : decode cX7_bringsOn 9 = .ok (.iadd, 1) := by decide +kernel
theorem dX7_bringsOn_10 : decode cX7_bringsOn 10 = .ok (.iaload, 1) := by decide +kernel
theorem dX7_bringsOn_11 : decode cX7_bringsOn 11 = .ok (.iload 4, 2) := by decide +kernel
theorem dX7_bringsOn_13 : decode cX7_bringsOn 13 = .ok (.iadd, 1) := by decide +kernel
theorem dX7_bringsOn_14 : decode cX7_bringsOn 14 = .ok (.istore 5, 2) := by decide +kernel
theorem dX7_bringsOn_16 : decode cX7_bringsOn 16 = .ok (.aload_n 0, 1) := by decide +kernel
theorem dX7_bringsOn_17 : decode cX7_bringsOn 17 = .ok (.getfield 7, 3) := by decide +kernel
theorem dX7_bringsOn_20 : decode cX7_bringsOn 20 = .ok (.iload_n 1, 1) := by decide +kernel
theorem dX7_bringsOn_21 : decode cX7_bringsOn 21 = .ok (.bipush 20, 2) := by decide +kernel
theorem dX7_bringsOn_23 : decode cX7_bringsOn 23 = .ok (.iadd, 1) := by decide +kernel
theorem dX7_bringsOn_24 : decode cX7_bringsOn 24 = .ok (.iload_n 3, 1) := by decide +kernel
theorem dX7_bringsOn_25 : decode cX7_bringsOn 25 = .ok (.iadd, 1) := by decide +kernel
theorem dX7_bringsOn_26 : decode cX7_bringsOn 26 = .ok (.iload 5, 2) := by decide +kernel
theorem dX7_bringsOn_28 : decode cX7_bringsOn 28 = .ok (.bipush 99, 2) := by decide +kernel
theorem dX7_bringsOn_30 : decode cX7_bringsOn 30 = .ok (.if_icmp .le 8, 3) := by decide +kernel
theorem dX7_bringsOn_33 : decode cX7_bringsOn 33 = .ok (.bipush 99, 2) := by decide +kernel
theorem dX7_bringsOn_35 : decode cX7_bringsOn 35 = .ok (.goto 5, 3) := by decide +kernel
theorem dX7_bringsOn_38 : decode cX7_bringsOn 38 = .ok (.iload 5, 2) := by decide +kernel
theorem dX7_bringsOn_40 : decode cX7_bringsOn 40 = .ok (.iastore, 1) := by decide +kernel
theorem dX7_bringsOn_41 : decode cX7_bringsOn 41 = .ok (.aload_n 0, 1) := by decide +kernel
theorem dX7_bringsOn_42 : decode cX7_bringsOn 42 = .ok (.getfield 7, 3) := by decide +kernel
theorem dX7_bringsOn_45 : decode cX7_bringsOn 45 = .ok (.iload_n 1, 1) := by decide +kernel
theorem dX7_bringsOn_46 : decode cX7_bringsOn 46 = .ok (.bipush 33, 2) := by decide +kernel
theorem dX7_bringsOn_48 : decode cX7_bringsOn 48 = .ok (.iadd, 1) := by decide +kernel
theorem dX7_bringsOn_49 : decode cX7_bringsOn 49 = .ok (.iconst 5, 1) := by decide +kernel
theorem dX7_bringsOn_50 : decode cX7_bringsOn 50 = .ok (.iload_n 2, 1) := by decide +kernel
theorem dX7_bringsOn_51 : decode cX7_bringsOn 51 = .ok (.imul, 1) := by decide +kernel
theorem dX7_bringsOn_52 : decode cX7_bringsOn 52 = .ok (.iadd, 1) := by decide +kernel
theorem dX7_bringsOn_53 : decode cX7_bringsOn 53 = .ok (.iload_n 3, 1) := by decide +kernel
theorem dX7_bringsOn_54 : decode cX7_bringsOn 54 = .ok (.iadd, 1) := by decide +kernel
theorem dX7_bringsOn_55 : decode cX7_bringsOn 55 = .ok (.dup2, 1) := by decide +kernel
theorem dX7_bringsOn_56 : decode cX7_bringsOn 56 = .ok (.iaload, 1) := by decide +kernel
theorem dX7_bringsOn_57 : decode cX7_bringsOn 57 = .ok (.iload 4, 2) := by decide +kernel
theorem dX7_bringsOn_59 : decode cX7_bringsOn 59 = .ok (.isub, 1) := by decide +kernel
theorem dX7_bringsOn_60 : decode cX7_bringsOn 60 = .ok (.iastore, 1) := by decide +kernel
theorem dX7_bringsOn_61 : decode cX7_bringsOn 61 = .ok (.return_, 1) := by decide +kernel
theorem dX7_bring_0 : decode cX7_bring 0 = .ok (.aload_n 0, 1) := by decide +kernel
theorem dX7_bring_1 : decode cX7_bring 1 = .ok (.iload_n 1, 1) := by decide +kernel
theorem dX7_bring_2 : decode cX7_bring 2 = .ok (.invokevirtual 182, 3) := by decide +kernel
theorem dX7_bring_5 : decode cX7_bring 5 = .ok (.ifCond .eq 23, 3) := by decide +kernel
theorem dX7_bring_8 : decode cX7_bring 8 = .ok (.aload_n 0, 1) := by decide +kernel
theorem dX7_bring_9 : decode cX7_bring 9 = .ok (.iload_n 2, 1) := by decide +kernel
theorem dX7_bring_10 : decode cX7_bring 10 = .ok (.invokevirtual 176, 3) := by decide +kernel
theorem dX7_bring_13 : decode cX7_bring 13 = .ok (.ifCond .eq 15, 3) := by decide +kernel
theorem dX7_bring_16 : decode cX7_bring 16 = .ok (.iload_n 3, 1) := by decide +kernel
theorem dX7_bring_17 : decode cX7_bring 17 = .ok (.i2l, 1) := by decide +kernel
theorem dX7_bring_18 : decode cX7_bring 18 = .ok (.lconst 1, 1) := by decide +kernel
theorem dX7_bring_19 : decode cX7_bring 19 = .ok (.ldc2_w 197, 3) := by decide +kernel
theorem dX7_bring_22 : decode cX7_bring 22 = .ok (.invokestatic 55, 3) := by decide +kernel
theorem dX7_bring_25 : decode cX7_bring 25 = .ok (.ifCond .ne 5, 3) := by decide +kernel
theorem dX7_bring_28 : decode cX7_bring 28 = .ok (.iconst (-1), 1) := by decide +kernel
theorem dX7_bring_29 : decode cX7_bring 29 = .ok (.ireturn, 1) := by decide +kernel
theorem dX7_bring_30 : decode cX7_bring 30 = .ok (.aload_n 0, 1) := by decide +kernel
theorem dX7_bring_31 : decode cX7_bring 31 = .ok (.getfield 7, 3) := by decide +kernel
theorem dX7_bring_34 : decode cX7_bring 34 = .ok (.bipush 33, 2) := by decide +kernel
theorem dX7_bring_36 : decode cX7_bring 36 = .ok (.iconst 5, 1) := by decide +kernel
theorem dX7_bring_37 : decode cX7_bring 37 = .ok (.iload_n 1, 1) := by decide +kernel
theorem dX7_bring_38 : decode cX7_bring 38 = .ok (.imul, 1) := by decide +kernel
theorem dX7_bring_39 : decode cX7_bring 39 = .ok (.iadd, 1) := by decide +kernel
theorem dX7_bring_40 : decode cX7_bring 40 = .ok (.iload_n 2, 1) := by decide +kernel
theorem dX7_bring_41 : decode cX7_bring 41 = .ok (.iadd, 1) := by decide +kernel
theorem dX7_bring_42 : decode cX7_bring 42 = .ok (.iaload, 1) := by decide +kernel
theorem dX7_bring_43 : decode cX7_bring 43 = .ok (.iload_n 3, 1) := by decide +kernel
theorem dX7_bring_44 : decode cX7_bring 44 = .ok (.if_icmp .ge 6, 3) := by decide +kernel
theorem dX7_bring_47 : decode cX7_bring 47 = .ok (.bipush (-2), 2) := by decide +kernel
theorem dX7_bring_49 : decode cX7_bring 49 = .ok (.ireturn, 1) := by decide +kernel
theorem dX7_bring_50 : decode cX7_bring 50 = .ok (.aload_n 0, 1) := by decide +kernel
theorem dX7_bring_51 : decode cX7_bring 51 = .ok (.iconst 0, 1) := by decide +kernel
theorem dX7_bring_52 : decode cX7_bring 52 = .ok (.iload_n 1, 1) := by decide +kernel
theorem dX7_bring_53 : decode cX7_bring 53 = .ok (.iload_n 2, 1) := by decide +kernel
theorem dX7_bring_54 : decode cX7_bring 54 = .ok (.iload_n 3, 1) := by decide +kernel
theorem dX7_bring_55 : decode cX7_bring 55 = .ok (.invokevirtual 203, 3) := by decide +kernel
theorem dX7_bring_58 : decode cX7_bring 58 = .ok (.aload_n 0, 1) := by decide +kernel
theorem dX7_bring_59 : decode cX7_bring 59 = .ok (.getfield 7, 3) := by decide +kernel
theorem dX7_bring_62 : decode cX7_bring 62 = .ok (.bipush 33, 2) := by decide +kernel
theorem dX7_bring_64 : decode cX7_bring 64 = .ok (.iconst 5, 1) := by decide +kernel
theorem dX7_bring_65 : decode cX7_bring 65 = .ok (.iload_n 1, 1) := by decide +kernel
theorem dX7_bring_66 : decode cX7_bring 66 = .ok (.imul, 1) := by decide +kernel
theorem dX7_bring_67 : decode cX7_bring 67 = .ok (.iadd, 1) := by decide +kernel
theorem dX7_bring_68 : decode cX7_bring 68 = .ok (.iload_n 2, 1) := by decide +kernel
theorem dX7_bring_69 : decode cX7_bring 69 = .ok (.iadd, 1) := by decide +kernel
theorem dX7_bring_70 : decode cX7_bring 70 = .ok (.iaload, 1) := by decide +kernel
theorem dX7_bring_71 : decode cX7_bring 71 = .ok (.ireturn, 1) := by decide +kernel
theorem dX7_days_0 : decode cX7_days 0 = .ok (.iload_n 1, 1) := by decide +kernel
theorem dX7_days_1 : decode cX7_days 1 = .ok (.i2l, 1) := by decide +kernel
theorem dX7_days_2 : decode cX7_days 2 = .ok (.lconst 0, 1) := by decide +kernel
theorem dX7_days_3 : decode cX7_days 3 = .ok (.ldc2_w 206, 3) := by decide +kernel
theorem dX7_days_6 : decode cX7_days 6 = .ok (.invokestatic 55, 3) := by decide +kernel
theorem dX7_days_9 : decode cX7_days 9 = .ok (.ifCond .ne 5, 3) := by decide +kernel
theorem dX7_days_12 : decode cX7_days 12 = .ok (.iconst (-1), 1) := by decide +kernel
theorem dX7_days_13 : decode cX7_days 13 = .ok (.ireturn, 1) := by decide +kernel
theorem dX7_days_14 : decode cX7_days 14 = .ok (.aload_n 0, 1) := by decide +kernel
theorem dX7_days_15 : decode cX7_days 15 = .ok (.getfield 7, 3) := by decide +kernel
theorem dX7_days_18 : decode cX7_days 18 = .ok (.bipush 53, 2) := by decide +kernel
theorem dX7_days_20 : decode cX7_days 20 = .ok (.iaload, 1) := by decide +kernel
theorem dX7_days_21 : decode cX7_days 21 = .ok (.iload_n 1, 1) := by decide +kernel
theorem dX7_days_22 : decode cX7_days 22 = .ok (.iadd, 1) := by decide +kernel
theorem dX7_days_23 : decode cX7_days 23 = .ok (.sipush 999, 3) := by decide +kernel
theorem dX7_days_26 : decode cX7_days 26 = .ok (.if_icmp .le 6, 3) := by decide +kernel
theorem dX7_days_29 : decode cX7_days 29 = .ok (.bipush (-3), 2) := by decide +kernel
theorem dX7_days_31 : decode cX7_days 31 = .ok (.ireturn, 1) := by decide +kernel
theorem dX7_days_32 : decode cX7_days 32 = .ok (.aload_n 0, 1) := by decide +kernel
theorem dX7_days_33 : decode cX7_days 33 = .ok (.getfield 7, 3) := by decide +kernel
theorem dX7_days_36 : decode cX7_days 36 = .ok (.bipush 54, 2) := by decide +kernel
theorem dX7_days_38 : decode cX7_days 38 = .ok (.iaload, 1) := by decide +kernel
theorem dX7_days_39 : decode cX7_days 39 = .ok (.istore_n 2, 1) := by decide +kernel
theorem dX7_days_40 : decode cX7_days 40 = .ok (.iconst 0, 1) := by decide +kernel
theorem dX7_days_41 : decode cX7_days 41 = .ok (.istore_n 3, 1) := by decide +kernel
theorem dX7_days_42 : decode cX7_days 42 = .ok (.iload_n 3, 1) := by decide +kernel
theorem dX7_days_43 : decode cX7_days 43 = .ok (.iload_n 1, 1) := by decide +kernel
theorem dX7_days_44 : decode cX7_days 44 = .ok (.if_icmp .ge 15, 3) := by decide +kernel
theorem dX7_days_47 : decode cX7_days 47 = .ok (.aload_n 0, 1) := by decide +kernel
theorem dX7_days_48 : decode cX7_days 48 = .ok (.iconst 0, 1) := by decide +kernel
theorem dX7_days_49 : decode cX7_days 49 = .ok (.iconst 1, 1) := by decide +kernel
theorem dX7_days_50 : decode cX7_days 50 = .ok (.invokevirtual 208, 3) := by decide +kernel
theorem dX7_days_53 : decode cX7_days 53 = .ok (.iinc 3 1, 3) := by decide +kernel
theorem dX7_days_56 : decode cX7_days 56 = .ok (.goto (-14), 3) := by decide +kernel
theorem dX7_days_59 : decode cX7_days 59 = .ok (.aload_n 0, 1) := by decide +kernel
theorem dX7_days_60 : decode cX7_days 60 = .ok (.getfield 7, 3) := by decide +kernel
theorem dX7_days_63 : decode cX7_days 63 = .ok (.bipush 54, 2) := by decide +kernel
theorem dX7_days_65 : decode cX7_days 65 = .ok (.iaload, 1) := by decide +kernel
theorem dX7_days_66 : decode cX7_days 66 = .ok (.iload_n 2, 1) := by decide +kernel
theorem dX7_days_67 : decode cX7_days 67 = .ok (.isub, 1) := by decide +kernel
theorem dX7_days_68 : decode cX7_days 68 = .ok (.ireturn, 1) := by decide +kernel
theorem dX7_copies_0 : decode cX7_copies 0 = .ok (.iconst 0, 1) := by decide +kernel
theorem dX7_copies_1 : decode cX7_copies 1 = .ok (.istore_n 3, 1) := by decide +kernel
theorem dX7_copies_2 : decode cX7_copies 2 = .ok (.iload_n 3, 1) := by decide +kernel
theorem dX7_copies_3 : decode cX7_copies 3 = .ok (.bipush 55, 2) := by decide +kernel
theorem dX7_copies_5 : decode cX7_copies 5 = .ok (.if_icmp .ge 25, 3) := by decide +kernel
theorem dX7_copies_8 : decode cX7_copies 8 = .ok (.aload_n 0, 1) := by decide +kernel
theorem dX7_copies_9 : decode cX7_copies 9 = .ok (.getfield 7, 3) := by decide +kernel
theorem dX7_copies_12 : decode cX7_copies 12 = .ok (.iload_n 2, 1) := by decide +kernel
theorem dX7_copies_13 : decode cX7_copies 13 = .ok (.iload_n 3, 1) := by decide +kernel
theorem dX7_copies_14 : decode cX7_copies 14 = .ok (.iadd, 1) := by decide +kernel
theorem dX7_copies_15 : decode cX7_copies 15 = .ok (.aload_n 0, 1) := by decide +kernel
theorem dX7_copies_16 : decode cX7_copies 16 = .ok (.getfield 7, 3) := by decide +kernel
theorem dX7_copies_19 : decode cX7_copies 19 = .ok (.iload_n 1, 1) := by decide +kernel
theorem dX7_copies_20 : decode cX7_copies 20 = .ok (.iload_n 3, 1) := by decide +kernel
theorem dX7_copies_21 : decode cX7_copies 21 = .ok (.iadd, 1) := by decide +kernel
theorem dX7_copies_22 : decode cX7_copies 22 = .ok (.iaload, 1) := by decide +kernel
theorem dX7_copies_23 : decode cX7_copies 23 = .ok (.iastore, 1) := by decide +kernel
theorem dX7_copies_24 : decode cX7_copies 24 = .ok (.iinc 3 1, 3) := by decide +kernel
theorem dX7_copies_27 : decode cX7_copies 27 = .ok (.goto (-25), 3) := by decide +kernel
theorem dX7_copies_30 : decode cX7_copies 30 = .ok (.return_, 1) := by decide +kernel
theorem dX7_daysGo_0 : decode cX7_daysGo 0 = .ok (.aload_n 0, 1) := by decide +kernel
theorem dX7_daysGo_1 : decode cX7_daysGo 1 = .ok (.iload_n 1, 1) := by decide +kernel
theorem dX7_daysGo_2 : decode cX7_daysGo 2 = .ok (.sipush 220, 3) := by decide +kernel
theorem dX7_daysGo_5 : decode cX7_daysGo 5 = .ok (.invokevirtual 212, 3) := by decide +kernel
theorem dX7_daysGo_8 : decode cX7_daysGo 8 = .ok (.aload_n 0, 1) := by decide +kernel
theorem dX7_daysGo_9 : decode cX7_daysGo 9 = .ok (.iconst 0, 1) := by decide +kernel
theorem dX7_daysGo_10 : decode cX7_daysGo 10 = .ok (.putfield 160, 3) := by decide +kernel
theorem dX7_daysGo_13 : decode cX7_daysGo 13 = .ok (.aload_n 0, 1) := by decide +kernel
theorem dX7_daysGo_14 : decode cX7_daysGo 14 = .ok (.bipush (-4), 2) := by decide +kernel
theorem dX7_daysGo_16 : decode cX7_daysGo 16 = .ok (.putfield 215, 3) := by decide +kernel
theorem dX7_daysGo_19 : decode cX7_daysGo 19 = .ok (.iconst 0, 1) := by decide +kernel
theorem dX7_daysGo_20 : decode cX7_daysGo 20 = .ok (.istore_n 3, 1) := by decide +kernel
theorem dX7_daysGo_21 : decode cX7_daysGo 21 = .ok (.iload_n 3, 1) := by decide +kernel
theorem dX7_daysGo_22 : decode cX7_daysGo 22 = .ok (.iconst 4, 1) := by decide +kernel
theorem dX7_daysGo_23 : decode cX7_daysGo 23 = .ok (.if_icmp .ge 16, 3) := by decide +kernel
theorem dX7_daysGo_26 : decode cX7_daysGo 26 = .ok (.aload_n 0, 1) := by decide +kernel
theorem dX7_daysGo_27 : decode cX7_daysGo 27 = .ok (.getfield 25, 3) := by decide +kernel
theorem dX7_daysGo_30 : decode cX7_daysGo 30 = .ok (.iload_n 3, 1) := by decide +kernel
theorem dX7_daysGo_31 : decode cX7_daysGo 31 = .ok (.iconst 0, 1) := by decide +kernel
theorem dX7_daysGo_32 : decode cX7_daysGo 32 = .ok (.iastore, 1) := by decide +kernel
theorem dX7_daysGo_33 : decode cX7_daysGo 33 = .ok (.iinc 3 1, 3) := by decide +kernel
theorem dX7_daysGo_36 : decode cX7_daysGo 36 = .ok (.goto (-15), 3) := by decide +kernel
theorem dX7_daysGo_39 : decode cX7_daysGo 39 = .ok (.iconst 1, 1) := by decide +kernel
theorem dX7_daysGo_40 : decode cX7_daysGo 40 = .ok (.istore_n 3, 1) := by decide +kernel
theorem dX7_daysGo_41 : decode cX7_daysGo 41 = .ok (.iload_n 3, 1) := by decide +kernel
theorem dX7_daysGo_42 : decode cX7_daysGo 42 = .ok (.iload_n 2, 1) := by decide +kernel
theorem dX7_daysGo_43 : decode cX7_daysGo 43 = .ok (.if_icmp .gt 58, 3) := by decide +kernel
theorem dX7_daysGo_46 : decode cX7_daysGo 46 = .ok (.aload_n 0, 1) := by decide +kernel
theorem dX7_daysGo_47 : decode cX7_daysGo 47 = .ok (.sipush 220, 3) := by decide +kernel
theorem dX7_daysGo_50 : decode cX7_daysGo 50 = .ok (.iconst 1, 1) := by decide +kernel
theorem dX7_daysGo_51 : decode cX7_daysGo 51 = .ok (.invokevirtual 208, 3) := by decide +kernel
theorem dX7_daysGo_54 : decode cX7_daysGo 54 = .ok (.aload_n 0, 1) := by decide +kernel
theorem dX7_daysGo_55 : decode cX7_daysGo 55 = .ok (.aload_n 0, 1) := by decide +kernel
theorem dX7_daysGo_56 : decode cX7_daysGo 56 = .ok (.getfield 215, 3) := by decide +kernel
theorem dX7_daysGo_59 : decode cX7_daysGo 59 = .ok (.bipush (-4), 2) := by decide +kernel
theorem dX7_daysGo_61 : decode cX7_daysGo 61 = .ok (.if_icmp .ne 27, 3) := by decide +kernel
theorem dX7_daysGo_64 : decode cX7_daysGo 64 = .ok (.aload_n 0, 1) := by decide +kernel
theorem dX7_daysGo_65 : decode cX7_daysGo 65 = .ok (.getfield 7, 3) := by decide +kernel
theorem dX7_daysGo_68 : decode cX7_daysGo 68 = .ok (.sipush 274, 3) := by decide +kernel
theorem dX7_daysGo_71 : decode cX7_daysGo 71 = .ok (.iaload, 1) := by decide +kernel
theorem dX7_daysGo_72 : decode cX7_daysGo 72 = .ok (.aload_n 0, 1) := by decide +kernel
theorem dX7_daysGo_73 : decode cX7_daysGo 73 = .ok (.getfield 7, 3) := by decide +kernel
theorem dX7_daysGo_76 : decode cX7_daysGo 76 = .ok (.iload_n 1, 1) := by decide +kernel
theorem dX7_daysGo_77 : decode cX7_daysGo 77 = .ok (.bipush 54, 2) := by decide +kernel
theorem dX7_daysGo_79 : decode cX7_daysGo 79 = .ok (.iadd, 1) := by decide +kernel
theorem dX7_daysGo_80 : decode cX7_daysGo 80 = .ok (.iaload, 1) := by decide +kernel
theorem dX7_daysGo_81 : decode cX7_daysGo 81 = .ok (.if_icmp .le 7, 3) := by decide +kernel
theorem dX7_daysGo_84 : decode cX7_daysGo 84 = .ok (.iload_n 3, 1) := by decide +kernel
theorem dX7_daysGo_85 : decode cX7_daysGo 85 = .ok (.goto 7, 3) := by decide +kernel
theorem dX7_daysGo_88 : decode cX7_daysGo 88 = .ok (.aload_n 0, 1) := by decide +kernel
theorem dX7_daysGo_89 : decode cX7_daysGo 89 = .ok (.getfield 215, 3) := by decide +kernel
theorem dX7_daysGo_92 : decode cX7_daysGo 92 = .ok (.putfield 215, 3) := by decide +kernel
theorem dX7_daysGo_95 : decode cX7_daysGo 95 = .ok (.iinc 3 1, 3) := by decide +kernel
theorem dX7_daysGo_98 : decode cX7_daysGo 98 = .ok (.goto (-57), 3) := by decide +kernel
theorem dX7_daysGo_101 : decode cX7_daysGo 101 = .ok (.aload_n 0, 1) := by decide +kernel
theorem dX7_daysGo_102 : decode cX7_daysGo 102 = .ok (.getfield 7, 3) := by decide +kernel
theorem dX7_daysGo_105 : decode cX7_daysGo 105 = .ok (.sipush 274, 3) := by decide +kernel
theorem dX7_daysGo_108 : decode cX7_daysGo 108 = .ok (.iaload, 1) := by decide +kernel
theorem dX7_daysGo_109 : decode cX7_daysGo 109 = .ok (.aload_n 0, 1) := by decide +kernel
theorem dX7_daysGo_110 : decode cX7_daysGo 110 = .ok (.getfield 7, 3) := by decide +kernel
theorem dX7_daysGo_113 : decode cX7_daysGo 113 = .ok (.iload_n 1, 1) := by decide +kernel
theorem dX7_daysGo_114 : decode cX7_daysGo 114 = .ok (.bipush 54, 2) := by decide +kernel
theorem dX7_daysGo_116 : decode cX7_daysGo 116 = .ok (.iadd, 1) := by decide +kernel
theorem dX7_daysGo_117 : decode cX7_daysGo 117 = .ok (.iaload, 1) := by decide +kernel
theorem dX7_daysGo_118 : decode cX7_daysGo 118 = .ok (.isub, 1) := by decide +kernel
theorem dX7_daysGo_119 : decode cX7_daysGo 119 = .ok (.ireturn, 1) := by decide +kernel
theorem dX7_runs_0 : decode cX7_runs 0 = .ok (.iload_n 1, 1) := by decide +kernel
theorem dX7_runs_1 : decode cX7_runs 1 = .ok (.i2l, 1) := by decide +kernel
theorem dX7_runs_2 : decode cX7_runs 2 = .ok (.lconst 0, 1) := by decide +kernel
theorem dX7_runs_3 : decode cX7_runs 3 = .ok (.ldc2_w 218, 3) := by decide +kernel
theorem dX7_runs_6 : decode cX7_runs 6 = .ok (.invokestatic 55, 3) := by decide +kernel
theorem dX7_runs_9 : decode cX7_runs 9 = .ok (.ifCond .eq 15, 3) := by decide +kernel
theorem dX7_runs_12 : decode cX7_runs 12 = .ok (.iload_n 2, 1) := by decide +kernel
theorem dX7_runs_13 : decode cX7_runs 13 = .ok (.i2l, 1) := by decide +kernel
theorem dX7_runs_14 : decode cX7_runs 14 = .ok (.lconst 0, 1) := by decide +kernel
theorem dX7_runs_15 : decode cX7_runs 15 = .ok (.ldc2_w 220, 3) := by decide +kernel
theorem dX7_runs_18 : decode cX7_runs 18 = .ok (.invokestatic 55, 3) := by decide +kernel
theorem dX7_runs_21 : decode cX7_runs 21 = .ok (.ifCond .ne 5, 3) := by decide +kernel
theorem dX7_runs_24 : decode cX7_runs 24 = .ok (.iconst (-1), 1) := by decide +kernel
theorem dX7_runs_25 : decode cX7_runs 25 = .ok (.ireturn, 1) := by decide +kernel
theorem dX7_runs_26 : decode cX7_runs 26 = .ok (.aload_n 0, 1) := by decide +kernel
theorem dX7_runs_27 : decode cX7_runs 27 = .ok (.iconst 0, 1) := by decide +kernel
theorem dX7_runs_28 : decode cX7_runs 28 = .ok (.iload_n 1, 1) := by decide +kernel
theorem dX7_runs_29 : decode cX7_runs 29 = .ok (.invokevirtual 222, 3) := by decide +kernel
theorem dX7_runs_32 : decode cX7_runs 32 = .ok (.istore_n 3, 1) := by decide +kernel
theorem dX7_runs_33 : decode cX7_runs 33 = .ok (.iload_n 2, 1) := by decide +kernel
theorem dX7_runs_34 : decode cX7_runs 34 = .ok (.ifCond .ne 13, 3) := by decide +kernel
theorem dX7_runs_37 : decode cX7_runs 37 = .ok (.aload_n 0, 1) := by decide +kernel
theorem dX7_runs_38 : decode cX7_runs 38 = .ok (.sipush 220, 3) := by decide +kernel
theorem dX7_runs_41 : decode cX7_runs 41 = .ok (.invokevirtual 173, 3) := by decide +kernel
theorem dX7_runs_44 : decode cX7_runs 44 = .ok (.goto 28, 3) := by decide +kernel
theorem dX7_runs_47 : decode cX7_runs 47 = .ok (.iload_n 2, 1) := by decide +kernel
theorem dX7_runs_48 : decode cX7_runs 48 = .ok (.iconst 1, 1) := by decide +kernel
theorem dX7_runs_49 : decode cX7_runs 49 = .ok (.if_icmp .ne 7, 3) := by decide +kernel
theorem dX7_runs_52 : decode cX7_runs 52 = .ok (.iload_n 3, 1) := by decide +kernel
theorem dX7_runs_53 : decode cX7_runs 53 = .ok (.goto 19, 3) := by decide +kernel
theorem dX7_runs_56 : decode cX7_runs 56 = .ok (.iload_n 2, 1) := by decide +kernel
theorem dX7_runs_57 : decode cX7_runs 57 = .ok (.iconst 2, 1) := by decide +kernel
theorem dX7_runs_58 : decode cX7_runs 58 = .ok (.if_icmp .ne 10, 3) := by decide +kernel
theorem dX7_runs_61 : decode cX7_runs 61 = .ok (.aload_n 0, 1) := by decide +kernel
theorem dX7_runs_62 : decode cX7_runs 62 = .ok (.getfield 160, 3) := by decide +kernel
theorem dX7_runs_65 : decode cX7_runs 65 = .ok (.goto 7, 3) := by decide +kernel
theorem dX7_runs_68 : decode cX7_runs 68 = .ok (.aload_n 0, 1) := by decide +kernel
theorem dX7_runs_69 : decode cX7_runs 69 = .ok (.getfield 215, 3) := by decide +kernel
theorem dX7_runs_72 : decode cX7_runs 72 = .ok (.ireturn, 1) := by decide +kernel
theorem dX7_ahead_0 : decode cX7_ahead 0 = .ok (.aload_n 0, 1) := by decide +kernel
theorem dX7_ahead_1 : decode cX7_ahead 1 = .ok (.iload_n 1, 1) := by decide +kernel
theorem dX7_ahead_2 : decode cX7_ahead 2 = .ok (.invokevirtual 182, 3) := by decide +kernel
theorem dX7_ahead_5 : decode cX7_ahead 5 = .ok (.ifCond .eq 27, 3) := by decide +kernel
theorem dX7_ahead_8 : decode cX7_ahead 8 = .ok (.iload_n 2, 1) := by decide +kernel
theorem dX7_ahead_9 : decode cX7_ahead 9 = .ok (.i2l, 1) := by decide +kernel
theorem dX7_ahead_10 : decode cX7_ahead 10 = .ok (.lconst 0, 1) := by decide +kernel
theorem dX7_ahead_11 : decode cX7_ahead 11 = .ok (.ldc2_w 218, 3) := by decide +kernel
theorem dX7_ahead_14 : decode cX7_ahead 14 = .ok (.invokestatic 55, 3) := by decide +kernel
theorem dX7_ahead_17 : decode cX7_ahead 17 = .ok (.ifCond .eq 15, 3) := by decide +kernel
theorem dX7_ahead_20 : decode cX7_ahead 20 = .ok (.iload_n 3, 1) := by decide +kernel
theorem dX7_ahead_21 : decode cX7_ahead 21 = .ok (.i2l, 1) := by decide +kernel
theorem dX7_ahead_22 : decode cX7_ahead 22 = .ok (.lconst 0, 1) := by decide +kernel
theorem dX7_ahead_23 : decode cX7_ahead 23 = .ok (.ldc2_w 225, 3) := by decide +kernel
theorem dX7_ahead_26 : decode cX7_ahead 26 = .ok (.invokestatic 55, 3) := by decide +kernel
theorem dX7_ahead_29 : decode cX7_ahead 29 = .ok (.ifCond .ne 5, 3) := by decide +kernel
theorem dX7_ahead_32 : decode cX7_ahead 32 = .ok (.iconst (-1), 1) := by decide +kernel
theorem dX7_ahead_33 : decode cX7_ahead 33 = .ok (.ireturn, 1) := by decide +kernel
theorem dX7_ahead_34 : decode cX7_ahead 34 = .ok (.aload_n 0, 1) := by decide +kernel
theorem dX7_ahead_35 : decode cX7_ahead 35 = .ok (.iconst 0, 1) := by decide +kernel
theorem dX7_ahead_36 : decode cX7_ahead 36 = .ok (.iload_n 2, 1) := by decide +kernel
theorem dX7_ahead_37 : decode cX7_ahead 37 = .ok (.invokevirtual 222, 3) := by decide +kernel
theorem dX7_ahead_40 : decode cX7_ahead 40 = .ok (.pop, 1) := by decide +kernel
theorem dX7_ahead_41 : decode cX7_ahead 41 = .ok (.iload_n 3, 1) := by decide +kernel
theorem dX7_ahead_42 : decode cX7_ahead 42 = .ok (.ifCond .ne 14, 3) := by decide +kernel
theorem dX7_ahead_45 : decode cX7_ahead 45 = .ok (.aload_n 0, 1) := by decide +kernel
theorem dX7_ahead_46 : decode cX7_ahead 46 = .ok (.sipush 220, 3) := by decide +kernel
theorem dX7_ahead_49 : decode cX7_ahead 49 = .ok (.iload_n 1, 1) := by decide +kernel
theorem dX7_ahead_50 : decode cX7_ahead 50 = .ok (.invokevirtual 185, 3) := by decide +kernel
theorem dX7_ahead_53 : decode cX7_ahead 53 = .ok (.goto 29, 3) := by decide +kernel
theorem dX7_ahead_56 : decode cX7_ahead 56 = .ok (.iload_n 3, 1) := by decide +kernel
theorem dX7_ahead_57 : decode cX7_ahead 57 = .ok (.iconst 1, 1) := by decide +kernel
theorem dX7_ahead_58 : decode cX7_ahead 58 = .ok (.if_icmp .ne 16, 3) := by decide +kernel
theorem dX7_ahead_61 : decode cX7_ahead 61 = .ok (.aload_n 0, 1) := by decide +kernel
theorem dX7_ahead_62 : decode cX7_ahead 62 = .ok (.getfield 7, 3) := by decide +kernel
theorem dX7_ahead_65 : decode cX7_ahead 65 = .ok (.sipush 245, 3) := by decide +kernel
theorem dX7_ahead_68 : decode cX7_ahead 68 = .ok (.iload_n 1, 1) := by decide +kernel
theorem dX7_ahead_69 : decode cX7_ahead 69 = .ok (.iadd, 1) := by decide +kernel
theorem dX7_ahead_70 : decode cX7_ahead 70 = .ok (.iaload, 1) := by decide +kernel
theorem dX7_ahead_71 : decode cX7_ahead 71 = .ok (.goto 11, 3) := by decide +kernel
theorem dX7_ahead_74 : decode cX7_ahead 74 = .ok (.aload_n 0, 1) := by decide +kernel
theorem dX7_ahead_75 : decode cX7_ahead 75 = .ok (.sipush 220, 3) := by decide +kernel
theorem dX7_ahead_78 : decode cX7_ahead 78 = .ok (.iload_n 1, 1) := by decide +kernel
theorem dX7_ahead_79 : decode cX7_ahead 79 = .ok (.invokevirtual 151, 3) := by decide +kernel
theorem dX7_ahead_82 : decode cX7_ahead 82 = .ok (.ireturn, 1) := by decide +kernel
theorem dX7_lasts_0 : decode cX7_lasts 0 = .ok (.aload_n 0, 1) := by decide +kernel
theorem dX7_lasts_1 : decode cX7_lasts 1 = .ok (.iload_n 1, 1) := by decide +kernel
theorem dX7_lasts_2 : decode cX7_lasts 2 = .ok (.invokevirtual 182, 3) := by decide +kernel
theorem dX7_lasts_5 : decode cX7_lasts 5 = .ok (.ifCond .ne 5, 3) := by decide +kernel
theorem dX7_lasts_8 : decode cX7_lasts 8 = .ok (.iconst (-1), 1) := by decide +kernel
theorem dX7_lasts_9 : decode cX7_lasts 9 = .ok (.ireturn, 1) := by decide +kernel
theorem dX7_lasts_10 : decode cX7_lasts 10 = .ok (.aload_n 0, 1) := by decide +kernel
theorem dX7_lasts_11 : decode cX7_lasts 11 = .ok (.iconst 0, 1) := by decide +kernel
theorem dX7_lasts_12 : decode cX7_lasts 12 = .ok (.sipush 220, 3) := by decide +kernel
theorem dX7_lasts_15 : decode cX7_lasts 15 = .ok (.invokevirtual 212, 3) := by decide +kernel
theorem dX7_lasts_18 : decode cX7_lasts 18 = .ok (.iconst 0, 1) := by decide +kernel
theorem dX7_lasts_19 : decode cX7_lasts 19 = .ok (.istore_n 2, 1) := by decide +kernel
theorem dX7_lasts_20 : decode cX7_lasts 20 = .ok (.iload_n 2, 1) := by decide +kernel
theorem dX7_lasts_21 : decode cX7_lasts 21 = .ok (.bipush 60, 2) := by decide +kernel
theorem dX7_lasts_23 : decode cX7_lasts 23 = .ok (.if_icmp .gt 30, 3) := by decide +kernel
theorem dX7_lasts_26 : decode cX7_lasts 26 = .ok (.aload_n 0, 1) := by decide +kernel
theorem dX7_lasts_27 : decode cX7_lasts 27 = .ok (.sipush 220, 3) := by decide +kernel
theorem dX7_lasts_30 : decode cX7_lasts 30 = .ok (.iload_n 1, 1) := by decide +kernel
theorem dX7_lasts_31 : decode cX7_lasts 31 = .ok (.invokevirtual 151, 3) := by decide +kernel
theorem dX7_lasts_34 : decode cX7_lasts 34 = .ok (.ifCond .ne 5, 3) := by decide +kernel
theorem dX7_lasts_37 : decode cX7_lasts 37 = .ok (.iload_n 2, 1) := by decide +kernel
theorem dX7_lasts_38 : decode cX7_lasts 38 = .ok (.ireturn, 1) := by decide +kernel
theorem dX7_lasts_39 : decode cX7_lasts 39 = .ok (.aload_n 0, 1) := by decide +kernel
theorem dX7_lasts_40 : decode cX7_lasts 40 = .ok (.sipush 220, 3) := by decide +kernel
theorem dX7_lasts_43 : decode cX7_lasts 43 = .ok (.iconst 1, 1) := by decide +kernel
theorem dX7_lasts_44 : decode cX7_lasts 44 = .ok (.invokevirtual 208, 3) := by decide +kernel
theorem dX7_lasts_47 : decode cX7_lasts 47 = .ok (.iinc 2 1, 3) := by decide +kernel
theorem dX7_lasts_50 : decode cX7_lasts 50 = .ok (.goto (-30), 3) := by decide +kernel
theorem dX7_lasts_53 : decode cX7_lasts 53 = .ok (.bipush (-4), 2) := by decide +kernel
theorem dX7_lasts_55 : decode cX7_lasts 55 = .ok (.ireturn, 1) := by decide +kernel
theorem dX7_powerOf_0 : decode cX7_powerOf 0 = .ok (.iconst 1, 1) := by decide +kernel
theorem dX7_powerOf_1 : decode cX7_powerOf 1 = .ok (.istore_n 2, 1) := by decide +kernel
theorem dX7_powerOf_2 : decode cX7_powerOf 2 = .ok (.iconst 0, 1) := by decide +kernel
theorem dX7_powerOf_3 : decode cX7_powerOf 3 = .ok (.istore_n 3, 1) := by decide +kernel
theorem dX7_powerOf_4 : decode cX7_powerOf 4 = .ok (.iload_n 3, 1) := by decide +kernel
theorem dX7_powerOf_5 : decode cX7_powerOf 5 = .ok (.iload_n 1, 1) := by decide +kernel
theorem dX7_powerOf_6 : decode cX7_powerOf 6 = .ok (.if_icmp .ge 13, 3) := by decide +kernel
theorem dX7_powerOf_9 : decode cX7_powerOf 9 = .ok (.iload_n 2, 1) := by decide +kernel
theorem dX7_powerOf_10 : decode cX7_powerOf 10 = .ok (.iload_n 0, 1) := by decide +kernel
theorem dX7_powerOf_11 : decode cX7_powerOf 11 = .ok (.imul, 1) := by decide +kernel
theorem dX7_powerOf_12 : decode cX7_powerOf 12 = .ok (.istore_n 2, 1) := by decide +kernel
theorem dX7_powerOf_13 : decode cX7_powerOf 13 = .ok (.iinc 3 1, 3) := by decide +kernel
theorem dX7_powerOf_16 : decode cX7_powerOf 16 = .ok (.goto (-12), 3) := by decide +kernel
theorem dX7_powerOf_19 : decode cX7_powerOf 19 = .ok (.iload_n 2, 1) := by decide +kernel
theorem dX7_powerOf_20 : decode cX7_powerOf 20 = .ok (.ireturn, 1) := by decide +kernel
theorem dX7_areDrops_0 : decode cX7_areDrops 0 = .ok (.iload_n 1, 1) := by decide +kernel
theorem dX7_areDrops_1 : decode cX7_areDrops 1 = .ok (.istore_n 3, 1) := by decide +kernel
theorem dX7_areDrops_2 : decode cX7_areDrops 2 = .ok (.iconst 0, 1) := by decide +kernel
theorem dX7_areDrops_3 : decode cX7_areDrops 3 = .ok (.istore 4, 2) := by decide +kernel
theorem dX7_areDrops_5 : decode cX7_areDrops 5 = .ok (.iconst 1, 1) := by decide +kernel
theorem dX7_areDrops_6 : decode cX7_areDrops 6 = .ok (.istore 5, 2) := by decide +kernel
theorem dX7_areDrops_8 : decode cX7_areDrops 8 = .ok (.aload_n 0, 1) := by decide +kernel
theorem dX7_areDrops_9 : decode cX7_areDrops 9 = .ok (.getfield 142, 3) := by decide +kernel
theorem dX7_areDrops_12 : decode cX7_areDrops 12 = .ok (.iconst 1, 1) := by decide +kernel
theorem dX7_areDrops_13 : decode cX7_areDrops 13 = .ok (.isub, 1) := by decide +kernel
theorem dX7_areDrops_14 : decode cX7_areDrops 14 = .ok (.istore 6, 2) := by decide +kernel
theorem dX7_areDrops_16 : decode cX7_areDrops 16 = .ok (.iload 6, 2) := by decide +kernel
theorem dX7_areDrops_18 : decode cX7_areDrops 18 = .ok (.ifCond .lt 69, 3) := by decide +kernel
theorem dX7_areDrops_21 : decode cX7_areDrops 21 = .ok (.aload_n 0, 1) := by decide +kernel
theorem dX7_areDrops_22 : decode cX7_areDrops 22 = .ok (.getfield 28, 3) := by decide +kernel
theorem dX7_areDrops_25 : decode cX7_areDrops 25 = .ok (.iload 6, 2) := by decide +kernel
theorem dX7_areDrops_27 : decode cX7_areDrops 27 = .ok (.iload_n 3, 1) := by decide +kernel
theorem dX7_areDrops_28 : decode cX7_areDrops 28 = .ok (.bipush 7, 2) := by decide +kernel
theorem dX7_areDrops_30 : decode cX7_areDrops 30 = .ok (.irem, 1) := by decide +kernel
theorem dX7_areDrops_31 : decode cX7_areDrops 31 = .ok (.iastore, 1) := by decide +kernel
theorem dX7_areDrops_32 : decode cX7_areDrops 32 = .ok (.iload_n 3, 1) := by decide +kernel
theorem dX7_areDrops_33 : decode cX7_areDrops 33 = .ok (.bipush 7, 2) := by decide +kernel
theorem dX7_areDrops_35 : decode cX7_areDrops 35 = .ok (.idiv, 1) := by decide +kernel
theorem dX7_areDrops_36 : decode cX7_areDrops 36 = .ok (.istore_n 3, 1) := by decide +kernel
theorem dX7_areDrops_37 : decode cX7_areDrops 37 = .ok (.iload 4, 2) := by decide +kernel
theorem dX7_areDrops_39 : decode cX7_areDrops 39 = .ok (.aload_n 0, 1) := by decide +kernel
theorem dX7_areDrops_40 : decode cX7_areDrops 40 = .ok (.getfield 28, 3) := by decide +kernel
theorem dX7_areDrops_43 : decode cX7_areDrops 43 = .ok (.iload 6, 2) := by decide +kernel
theorem dX7_areDrops_45 : decode cX7_areDrops 45 = .ok (.iaload, 1) := by decide +kernel
theorem dX7_areDrops_46 : decode cX7_areDrops 46 = .ok (.iadd, 1) := by decide +kernel
theorem dX7_areDrops_47 : decode cX7_areDrops 47 = .ok (.istore 4, 2) := by decide +kernel
theorem dX7_areDrops_49 : decode cX7_areDrops 49 = .ok (.iload 5, 2) := by decide +kernel
theorem dX7_areDrops_51 : decode cX7_areDrops 51 = .ok (.ifCond .eq 27, 3) := by decide +kernel
theorem dX7_areDrops_54 : decode cX7_areDrops 54 = .ok (.aload_n 0, 1) := by decide +kernel
theorem dX7_areDrops_55 : decode cX7_areDrops 55 = .ok (.getfield 28, 3) := by decide +kernel
theorem dX7_areDrops_58 : decode cX7_areDrops 58 = .ok (.iload 6, 2) := by decide +kernel
theorem dX7_areDrops_60 : decode cX7_areDrops 60 = .ok (.iaload, 1) := by decide +kernel
theorem dX7_areDrops_61 : decode cX7_areDrops 61 = .ok (.aload_n 0, 1) := by decide +kernel
theorem dX7_areDrops_62 : decode cX7_areDrops 62 = .ok (.getfield 7, 3) := by decide +kernel
theorem dX7_areDrops_65 : decode cX7_areDrops 65 = .ok (.bipush 20, 2) := by decide +kernel
theorem dX7_areDrops_67 : decode cX7_areDrops 67 = .ok (.iload 6, 2) := by decide +kernel
theorem dX7_areDrops_69 : decode cX7_areDrops 69 = .ok (.iadd, 1) := by decide +kernel
theorem dX7_areDrops_70 : decode cX7_areDrops 70 = .ok (.iaload, 1) := by decide +kernel
theorem dX7_areDrops_71 : decode cX7_areDrops 71 = .ok (.if_icmp .gt 7, 3) := by decide +kernel
theorem dX7_areDrops_74 : decode cX7_areDrops 74 = .ok (.iconst 1, 1) := by decide +kernel
theorem dX7_areDrops_75 : decode cX7_areDrops 75 = .ok (.goto 4, 3) := by decide +kernel
theorem dX7_areDrops_78 : decode cX7_areDrops 78 = .ok (.iconst 0, 1) := by decide +kernel
theorem dX7_areDrops_79 : decode cX7_areDrops 79 = .ok (.istore 5, 2) := by decide +kernel
theorem dX7_areDrops_81 : decode cX7_areDrops 81 = .ok (.iinc 6 (-1), 3) := by decide +kernel
theorem dX7_areDrops_84 : decode cX7_areDrops 84 = .ok (.goto (-68), 3) := by decide +kernel
theorem dX7_areDrops_87 : decode cX7_areDrops 87 = .ok (.iload 5, 2) := by decide +kernel
theorem dX7_areDrops_89 : decode cX7_areDrops 89 = .ok (.ifCond .eq 13, 3) := by decide +kernel
theorem dX7_areDrops_92 : decode cX7_areDrops 92 = .ok (.iload 4, 2) := by decide +kernel
theorem dX7_areDrops_94 : decode cX7_areDrops 94 = .ok (.iload_n 2, 1) := by decide +kernel
theorem dX7_areDrops_95 : decode cX7_areDrops 95 = .ok (.if_icmp .ne 7, 3) := by decide +kernel
theorem dX7_areDrops_98 : decode cX7_areDrops 98 = .ok (.iconst 1, 1) := by decide +kernel
theorem dX7_areDrops_99 : decode cX7_areDrops 99 = .ok (.goto 4, 3) := by decide +kernel
theorem dX7_areDrops_102 : decode cX7_areDrops 102 = .ok (.iconst 0, 1) := by decide +kernel
theorem dX7_areDrops_103 : decode cX7_areDrops 103 = .ok (.ireturn, 1) := by decide +kernel
theorem dX7_hueOfDrops_0 : decode cX7_hueOfDrops 0 = .ok (.iconst 0, 1) := by decide +kernel
theorem dX7_hueOfDrops_1 : decode cX7_hueOfDrops 1 = .ok (.istore_n 2, 1) := by decide +kernel
theorem dX7_hueOfDrops_2 : decode cX7_hueOfDrops 2 = .ok (.iconst 0, 1) := by decide +kernel
theorem dX7_hueOfDrops_3 : decode cX7_hueOfDrops 3 = .ok (.istore_n 3, 1) := by decide +kernel
theorem dX7_hueOfDrops_4 : decode cX7_hueOfDrops 4 = .ok (.iload_n 3, 1) := by decide +kernel
theorem dX7_hueOfDrops_5 : decode cX7_hueOfDrops 5 = .ok (.bipush 15, 2) := by decide +kernel
theorem dX7_hueOfDrops_7 : decode cX7_hueOfDrops 7 = .ok (.if_icmp .ge 64, 3) := by decide +kernel
theorem dX7_hueOfDrops_10 : decode cX7_hueOfDrops 10 = .ok (.iconst 0, 1) := by decide +kernel
theorem dX7_hueOfDrops_11 : decode cX7_hueOfDrops 11 = .ok (.istore 4, 2) := by decide +kernel
theorem dX7_hueOfDrops_13 : decode cX7_hueOfDrops 13 = .ok (.iconst 0, 1) := by decide +kernel
theorem dX7_hueOfDrops_14 : decode cX7_hueOfDrops 14 = .ok (.istore 5, 2) := by decide +kernel
theorem dX7_hueOfDrops_16 : decode cX7_hueOfDrops 16 = .ok (.iload 5, 2) := by decide +kernel
theorem dX7_hueOfDrops_18 : decode cX7_hueOfDrops 18 = .ok (.aload_n 0, 1) := by decide +kernel
theorem dX7_hueOfDrops_19 : decode cX7_hueOfDrops 19 = .ok (.getfield 142, 3) := by decide +kernel
theorem dX7_hueOfDrops_22 : decode cX7_hueOfDrops 22 = .ok (.if_icmp .ge 33, 3) := by decide +kernel
theorem dX7_hueOfDrops_25 : decode cX7_hueOfDrops 25 = .ok (.iload 4, 2) := by decide +kernel
theorem dX7_hueOfDrops_27 : decode cX7_hueOfDrops 27 = .ok (.aload_n 0, 1) := by decide +kernel
theorem dX7_hueOfDrops_28 : decode cX7_hueOfDrops 28 = .ok (.getfield 28, 3) := by decide +kernel
theorem dX7_hueOfDrops_31 : decode cX7_hueOfDrops 31 = .ok (.iload 5, 2) := by decide +kernel
theorem dX7_hueOfDrops_33 : decode cX7_hueOfDrops 33 = .ok (.iaload, 1) := by decide +kernel
theorem dX7_hueOfDrops_34 : decode cX7_hueOfDrops 34 = .ok (.aload_n 0, 1) := by decide +kernel
theorem dX7_hueOfDrops_35 : decode cX7_hueOfDrops 35 = .ok (.getfield 7, 3) := by decide +kernel
theorem dX7_hueOfDrops_38 : decode cX7_hueOfDrops 38 = .ok (.iconst 5, 1) := by decide +kernel
theorem dX7_hueOfDrops_39 : decode cX7_hueOfDrops 39 = .ok (.iload_n 3, 1) := by decide +kernel
theorem dX7_hueOfDrops_40 : decode cX7_hueOfDrops 40 = .ok (.iadd, 1) := by decide +kernel
theorem dX7_hueOfDrops_41 : decode cX7_hueOfDrops 41 = .ok (.iload 5, 2) := by decide +kernel
theorem dX7_hueOfDrops_43 : decode cX7_hueOfDrops 43 = .ok (.iadd, 1) := by decide +kernel
theorem dX7_hueOfDrops_44 : decode cX7_hueOfDrops 44 = .ok (.iaload, 1) := by decide +kernel
theorem dX7_hueOfDrops_45 : decode cX7_hueOfDrops 45 = .ok (.imul, 1) := by decide +kernel
theorem dX7_hueOfDrops_46 : decode cX7_hueOfDrops 46 = .ok (.iadd, 1) := by decide +kernel
theorem dX7_hueOfDrops_47 : decode cX7_hueOfDrops 47 = .ok (.istore 4, 2) := by decide +kernel
theorem dX7_hueOfDrops_49 : decode cX7_hueOfDrops 49 = .ok (.iinc 5 1, 3) := by decide +kernel
theorem dX7_hueOfDrops_52 : decode cX7_hueOfDrops 52 = .ok (.goto (-36), 3) := by decide +kernel
theorem dX7_hueOfDrops_55 : decode cX7_hueOfDrops 55 = .ok (.bipush 10, 2) := by decide +kernel
theorem dX7_hueOfDrops_57 : decode cX7_hueOfDrops 57 = .ok (.iload_n 2, 1) := by decide +kernel
theorem dX7_hueOfDrops_58 : decode cX7_hueOfDrops 58 = .ok (.imul, 1) := by decide +kernel
theorem dX7_hueOfDrops_59 : decode cX7_hueOfDrops 59 = .ok (.iload 4, 2) := by decide +kernel
theorem dX7_hueOfDrops_61 : decode cX7_hueOfDrops 61 = .ok (.iload_n 1, 1) := by decide +kernel
theorem dX7_hueOfDrops_62 : decode cX7_hueOfDrops 62 = .ok (.idiv, 1) := by decide +kernel
theorem dX7_hueOfDrops_63 : decode cX7_hueOfDrops 63 = .ok (.iadd, 1) := by decide +kernel
theorem dX7_hueOfDrops_64 : decode cX7_hueOfDrops 64 = .ok (.istore_n 2, 1) := by decide +kernel
theorem dX7_hueOfDrops_65 : decode cX7_hueOfDrops 65 = .ok (.iinc 3 5, 3) := by decide +kernel
theorem dX7_hueOfDrops_68 : decode cX7_hueOfDrops 68 = .ok (.goto (-64), 3) := by decide +kernel
theorem dX7_hueOfDrops_71 : decode cX7_hueOfDrops 71 = .ok (.iload_n 2, 1) := by decide +kernel
theorem dX7_hueOfDrops_72 : decode cX7_hueOfDrops 72 = .ok (.ireturn, 1) := by decide +kernel
theorem dX7_mix_0 : decode cX7_mix 0 = .ok (.iload_n 1, 1) := by decide +kernel
theorem dX7_mix_1 : decode cX7_mix 1 = .ok (.i2l, 1) := by decide +kernel
theorem dX7_mix_2 : decode cX7_mix 2 = .ok (.lconst 0, 1) := by decide +kernel
theorem dX7_mix_3 : decode cX7_mix 3 = .ok (.ldc2_w 188, 3) := by decide +kernel
theorem dX7_mix_6 : decode cX7_mix 6 = .ok (.invokestatic 55, 3) := by decide +kernel
theorem dX7_mix_9 : decode cX7_mix 9 = .ok (.ifCond .eq 29, 3) := by decide +kernel
theorem dX7_mix_12 : decode cX7_mix 12 = .ok (.iload_n 2, 1) := by decide +kernel
theorem dX7_mix_13 : decode cX7_mix 13 = .ok (.i2l, 1) := by decide +kernel
theorem dX7_mix_14 : decode cX7_mix 14 = .ok (.lconst 1, 1) := by decide +kernel
theorem dX7_mix_15 : decode cX7_mix 15 = .ok (.ldc2_w 180, 3) := by decide +kernel
theorem dX7_mix_18 : decode cX7_mix 18 = .ok (.invokestatic 55, 3) := by decide +kernel
theorem dX7_mix_21 : decode cX7_mix 21 = .ok (.ifCond .eq 17, 3) := by decide +kernel
theorem dX7_mix_24 : decode cX7_mix 24 = .ok (.iload_n 3, 1) := by decide +kernel
theorem dX7_mix_25 : decode cX7_mix 25 = .ok (.i2l, 1) := by decide +kernel
theorem dX7_mix_26 : decode cX7_mix 26 = .ok (.lconst 0, 1) := by decide +kernel
theorem dX7_mix_27 : decode cX7_mix 27 = .ok (.aload_n 0, 1) := by decide +kernel
theorem dX7_mix_28 : decode cX7_mix 28 = .ok (.getfield 142, 3) := by decide +kernel
theorem dX7_mix_31 : decode cX7_mix 31 = .ok (.i2l, 1) := by decide +kernel
theorem dX7_mix_32 : decode cX7_mix 32 = .ok (.invokestatic 55, 3) := by decide +kernel
theorem dX7_mix_35 : decode cX7_mix 35 = .ok (.ifCond .ne 5, 3) := by decide +kernel
theorem dX7_mix_38 : decode cX7_mix 38 = .ok (.iconst (-1), 1) := by decide +kernel
theorem dX7_mix_39 : decode cX7_mix 39 = .ok (.ireturn, 1) := by decide +kernel
theorem dX7_mix_40 : decode cX7_mix 40 = .ok (.bipush 100, 2) := by decide +kernel
theorem dX7_mix_42 : decode cX7_mix 42 = .ok (.istore 4, 2) := by decide +kernel
theorem dX7_mix_44 : decode cX7_mix 44 = .ok (.iconst 0, 1) := by decide +kernel
theorem dX7_mix_45 : decode cX7_mix 45 = .ok (.istore 5, 2) := by decide +kernel
theorem dX7_mix_47 : decode cX7_mix 47 = .ok (.iload 5, 2) := by decide +kernel
theorem dX7_mix_49 : decode cX7_mix 49 = .ok (.bipush 7, 2) := by decide +kernel
theorem dX7_mix_51 : decode cX7_mix 51 = .ok (.aload_n 0, 1) := by decide +kernel
theorem dX7_mix_52 : decode cX7_mix 52 = .ok (.getfield 142, 3) := by decide +kernel
theorem dX7_mix_55 : decode cX7_mix 55 = .ok (.invokestatic 227, 3) := by decide +kernel
theorem dX7_mix_58 : decode cX7_mix 58 = .ok (.if_icmp .ge 76, 3) := by decide +kernel
theorem dX7_mix_61 : decode cX7_mix 61 = .ok (.aload_n 0, 1) := by decide +kernel
theorem dX7_mix_62 : decode cX7_mix 62 = .ok (.iload 5, 2) := by decide +kernel
theorem dX7_mix_64 : decode cX7_mix 64 = .ok (.iload_n 2, 1) := by decide +kernel
theorem dX7_mix_65 : decode cX7_mix 65 = .ok (.invokevirtual 230, 3) := by decide +kernel
theorem dX7_mix_68 : decode cX7_mix 68 = .ok (.ifCond .eq 60, 3) := by decide +kernel
theorem dX7_mix_71 : decode cX7_mix 71 = .ok (.aload_n 0, 1) := by decide +kernel
theorem dX7_mix_72 : decode cX7_mix 72 = .ok (.iload_n 2, 1) := by decide +kernel
theorem dX7_mix_73 : decode cX7_mix 73 = .ok (.invokevirtual 234, 3) := by decide +kernel
theorem dX7_mix_76 : decode cX7_mix 76 = .ok (.iload_n 1, 1) := by decide +kernel
theorem dX7_mix_77 : decode cX7_mix 77 = .ok (.invokestatic 190, 3) := by decide +kernel
theorem dX7_mix_80 : decode cX7_mix 80 = .ok (.iload 4, 2) := by decide +kernel
theorem dX7_mix_82 : decode cX7_mix 82 = .ok (.if_icmp .ge 46, 3) := by decide +kernel
theorem dX7_mix_85 : decode cX7_mix 85 = .ok (.aload_n 0, 1) := by decide +kernel
theorem dX7_mix_86 : decode cX7_mix 86 = .ok (.iload_n 2, 1) := by decide +kernel
theorem dX7_mix_87 : decode cX7_mix 87 = .ok (.invokevirtual 234, 3) := by decide +kernel
theorem dX7_mix_90 : decode cX7_mix 90 = .ok (.iload_n 1, 1) := by decide +kernel
theorem dX7_mix_91 : decode cX7_mix 91 = .ok (.invokestatic 190, 3) := by decide +kernel
theorem dX7_mix_94 : decode cX7_mix 94 = .ok (.istore 4, 2) := by decide +kernel
theorem dX7_mix_96 : decode cX7_mix 96 = .ok (.iconst 0, 1) := by decide +kernel
theorem dX7_mix_97 : decode cX7_mix 97 = .ok (.istore 6, 2) := by decide +kernel
theorem dX7_mix_99 : decode cX7_mix 99 = .ok (.iload 6, 2) := by decide +kernel
theorem dX7_mix_101 : decode cX7_mix 101 = .ok (.aload_n 0, 1) := by decide +kernel
theorem dX7_mix_102 : decode cX7_mix 102 = .ok (.getfield 142, 3) := by decide +kernel
theorem dX7_mix_105 : decode cX7_mix 105 = .ok (.if_icmp .ge 23, 3) := by decide +kernel
theorem dX7_mix_108 : decode cX7_mix 108 = .ok (.aload_n 0, 1) := by decide +kernel
theorem dX7_mix_109 : decode cX7_mix 109 = .ok (.getfield 31, 3) := by decide +kernel
theorem dX7_mix_112 : decode cX7_mix 112 = .ok (.iload 6, 2) := by decide +kernel
theorem dX7_mix_114 : decode cX7_mix 114 = .ok (.aload_n 0, 1) := by decide +kernel
theorem dX7_mix_115 : decode cX7_mix 115 = .ok (.getfield 28, 3) := by decide +kernel
theorem dX7_mix_118 : decode cX7_mix 118 = .ok (.iload 6, 2) := by decide +kernel
theorem dX7_mix_120 : decode cX7_mix 120 = .ok (.iaload, 1) := by decide +kernel
theorem dX7_mix_121 : decode cX7_mix 121 = .ok (.iastore, 1) := by decide +kernel
theorem dX7_mix_122 : decode cX7_mix 122 = .ok (.iinc 6 1, 3) := by decide +kernel
theorem dX7_mix_125 : decode cX7_mix 125 = .ok (.goto (-26), 3) := by decide +kernel
theorem dX7_mix_128 : decode cX7_mix 128 = .ok (.iinc 5 1, 3) := by decide +kernel
theorem dX7_mix_131 : decode cX7_mix 131 = .ok (.goto (-84), 3) := by decide +kernel
theorem dX7_mix_134 : decode cX7_mix 134 = .ok (.iload 4, 2) := by decide +kernel
theorem dX7_mix_136 : decode cX7_mix 136 = .ok (.bipush 100, 2) := by decide +kernel
theorem dX7_mix_138 : decode cX7_mix 138 = .ok (.if_icmp .ne 8, 3) := by decide +kernel
theorem dX7_mix_141 : decode cX7_mix 141 = .ok (.bipush (-4), 2) := by decide +kernel
theorem dX7_mix_143 : decode cX7_mix 143 = .ok (.goto 20, 3) := by decide +kernel
theorem dX7_mix_146 : decode cX7_mix 146 = .ok (.iload_n 3, 1) := by decide +kernel
theorem dX7_mix_147 : decode cX7_mix 147 = .ok (.ifCond .ne 8, 3) := by decide +kernel
theorem dX7_mix_150 : decode cX7_mix 150 = .ok (.iload 4, 2) := by decide +kernel
theorem dX7_mix_152 : decode cX7_mix 152 = .ok (.goto 11, 3) := by decide +kernel
theorem dX7_mix_155 : decode cX7_mix 155 = .ok (.aload_n 0, 1) := by decide +kernel
theorem dX7_mix_156 : decode cX7_mix 156 = .ok (.getfield 31, 3) := by decide +kernel
theorem dX7_mix_159 : decode cX7_mix 159 = .ok (.iload_n 3, 1) := by decide +kernel
theorem dX7_mix_160 : decode cX7_mix 160 = .ok (.iconst 1, 1) := by decide +kernel
theorem dX7_mix_161 : decode cX7_mix 161 = .ok (.isub, 1) := by decide +kernel
theorem dX7_mix_162 : decode cX7_mix 162 = .ok (.iaload, 1) := by decide +kernel
theorem dX7_mix_163 : decode cX7_mix 163 = .ok (.ireturn, 1) := by decide +kernel
theorem dX7_cheap_0 : decode cX7_cheap 0 = .ok (.iload_n 1, 1) := by decide +kernel
theorem dX7_cheap_1 : decode cX7_cheap 1 = .ok (.i2l, 1) := by decide +kernel
theorem dX7_cheap_2 : decode cX7_cheap 2 = .ok (.lconst 0, 1) := by decide +kernel
theorem dX7_cheap_3 : decode cX7_cheap 3 = .ok (.ldc2_w 188, 3) := by decide +kernel
theorem dX7_cheap_6 : decode cX7_cheap 6 = .ok (.invokestatic 55, 3) := by decide +kernel
theorem dX7_cheap_9 : decode cX7_cheap 9 = .ok (.ifCond .eq 27, 3) := by decide +kernel
theorem dX7_cheap_12 : decode cX7_cheap 12 = .ok (.iload_n 2, 1) := by decide +kernel
theorem dX7_cheap_13 : decode cX7_cheap 13 = .ok (.i2l, 1) := by decide +kernel
theorem dX7_cheap_14 : decode cX7_cheap 14 = .ok (.lconst 0, 1) := by decide +kernel
theorem dX7_cheap_15 : decode cX7_cheap 15 = .ok (.ldc2_w 237, 3) := by decide +kernel
theorem dX7_cheap_18 : decode cX7_cheap 18 = .ok (.invokestatic 55, 3) := by decide +kernel
theorem dX7_cheap_21 : decode cX7_cheap 21 = .ok (.ifCond .eq 15, 3) := by decide +kernel
theorem dX7_cheap_24 : decode cX7_cheap 24 = .ok (.iload_n 3, 1) := by decide +kernel
theorem dX7_cheap_25 : decode cX7_cheap 25 = .ok (.i2l, 1) := by decide +kernel
theorem dX7_cheap_26 : decode cX7_cheap 26 = .ok (.lconst 1, 1) := by decide +kernel
theorem dX7_cheap_27 : decode cX7_cheap 27 = .ok (.ldc2_w 180, 3) := by decide +kernel
theorem dX7_cheap_30 : decode cX7_cheap 30 = .ok (.invokestatic 55, 3) := by decide +kernel
theorem dX7_cheap_33 : decode cX7_cheap 33 = .ok (.ifCond .ne 5, 3) := by decide +kernel
theorem dX7_cheap_36 : decode cX7_cheap 36 = .ok (.iconst (-1), 1) := by decide +kernel
theorem dX7_cheap_37 : decode cX7_cheap 37 = .ok (.ireturn, 1) := by decide +kernel
theorem dX7_cheap_38 : decode cX7_cheap 38 = .ok (.sipush 1000, 3) := by decide +kernel
theorem dX7_cheap_41 : decode cX7_cheap 41 = .ok (.istore 4, 2) := by decide +kernel
theorem dX7_cheap_43 : decode cX7_cheap 43 = .ok (.iconst 0, 1) := by decide +kernel
theorem dX7_cheap_44 : decode cX7_cheap 44 = .ok (.istore 5, 2) := by decide +kernel
theorem dX7_cheap_46 : decode cX7_cheap 46 = .ok (.iload 5, 2) := by decide +kernel
theorem dX7_cheap_48 : decode cX7_cheap 48 = .ok (.bipush 7, 2) := by decide +kernel
theorem dX7_cheap_50 : decode cX7_cheap 50 = .ok (.aload_n 0, 1) := by decide +kernel
theorem dX7_cheap_51 : decode cX7_cheap 51 = .ok (.getfield 142, 3) := by decide +kernel
theorem dX7_cheap_54 : decode cX7_cheap 54 = .ok (.invokestatic 227, 3) := by decide +kernel
theorem dX7_cheap_57 : decode cX7_cheap 57 = .ok (.if_icmp .ge 89, 3) := by decide +kernel
theorem dX7_cheap_60 : decode cX7_cheap 60 = .ok (.aload_n 0, 1) := by decide +kernel
theorem dX7_cheap_61 : decode cX7_cheap 61 = .ok (.iload 5, 2) := by decide +kernel
theorem dX7_cheap_63 : decode cX7_cheap 63 = .ok (.iload_n 3, 1) := by decide +kernel
theorem dX7_cheap_64 : decode cX7_cheap 64 = .ok (.invokevirtual 230, 3) := by decide +kernel
theorem dX7_cheap_67 : decode cX7_cheap 67 = .ok (.ifCond .eq 73, 3) := by decide +kernel
theorem dX7_cheap_70 : decode cX7_cheap 70 = .ok (.aload_n 0, 1) := by decide +kernel
theorem dX7_cheap_71 : decode cX7_cheap 71 = .ok (.iload_n 3, 1) := by decide +kernel
theorem dX7_cheap_72 : decode cX7_cheap 72 = .ok (.invokevirtual 234, 3) := by decide +kernel
theorem dX7_cheap_75 : decode cX7_cheap 75 = .ok (.iload_n 1, 1) := by decide +kernel
theorem dX7_cheap_76 : decode cX7_cheap 76 = .ok (.invokestatic 190, 3) := by decide +kernel
theorem dX7_cheap_79 : decode cX7_cheap 79 = .ok (.iload_n 2, 1) := by decide +kernel
theorem dX7_cheap_80 : decode cX7_cheap 80 = .ok (.if_icmp .gt 60, 3) := by decide +kernel
theorem dX7_cheap_83 : decode cX7_cheap 83 = .ok (.iconst 0, 1) := by decide +kernel
theorem dX7_cheap_84 : decode cX7_cheap 84 = .ok (.istore 6, 2) := by decide +kernel
theorem dX7_cheap_86 : decode cX7_cheap 86 = .ok (.iconst 0, 1) := by decide +kernel
theorem dX7_cheap_87 : decode cX7_cheap 87 = .ok (.istore 7, 2) := by decide +kernel
theorem dX7_cheap_89 : decode cX7_cheap 89 = .ok (.iload 7, 2) := by decide +kernel
theorem dX7_cheap_91 : decode cX7_cheap 91 = .ok (.aload_n 0, 1) := by decide +kernel
theorem dX7_cheap_92 : decode cX7_cheap 92 = .ok (.getfield 142, 3) := by decide +kernel
theorem dX7_cheap_95 : decode cX7_cheap 95 = .ok (.if_icmp .ge 29, 3) := by decide +kernel
theorem dX7_cheap_98 : decode cX7_cheap 98 = .ok (.iload 6, 2) := by decide +kernel
theorem dX7_cheap_100 : decode cX7_cheap 100 = .ok (.aload_n 0, 1) := by decide +kernel
theorem dX7_cheap_101 : decode cX7_cheap 101 = .ok (.getfield 28, 3) := by decide +kernel
theorem dX7_cheap_104 : decode cX7_cheap 104 = .ok (.iload 7, 2) := by decide +kernel
theorem dX7_cheap_106 : decode cX7_cheap 106 = .ok (.iaload, 1) := by decide +kernel
theorem dX7_cheap_107 : decode cX7_cheap 107 = .ok (.aload_n 0, 1) := by decide +kernel
theorem dX7_cheap_108 : decode cX7_cheap 108 = .ok (.iconst 0, 1) := by decide +kernel
theorem dX7_cheap_109 : decode cX7_cheap 109 = .ok (.iload 7, 2) := by decide +kernel
theorem dX7_cheap_111 : decode cX7_cheap 111 = .ok (.invokevirtual 157, 3) := by decide +kernel
theorem dX7_cheap_114 : decode cX7_cheap 114 = .ok (.imul, 1) := by decide +kernel
theorem dX7_cheap_115 : decode cX7_cheap 115 = .ok (.iadd, 1) := by decide +kernel
theorem dX7_cheap_116 : decode cX7_cheap 116 = .ok (.istore 6, 2) := by decide +kernel
theorem dX7_cheap_118 : decode cX7_cheap 118 = .ok (.iinc 7 1, 3) := by decide +kernel
theorem dX7_cheap_121 : decode cX7_cheap 121 = .ok (.goto (-32), 3) := by decide +kernel
theorem dX7_cheap_124 : decode cX7_cheap 124 = .ok (.iload 6, 2) := by decide +kernel
theorem dX7_cheap_126 : decode cX7_cheap 126 = .ok (.iload 4, 2) := by decide +kernel
theorem dX7_cheap_128 : decode cX7_cheap 128 = .ok (.if_icmp .ge 8, 3) := by decide +kernel
theorem dX7_cheap_131 : decode cX7_cheap 131 = .ok (.iload 6, 2) := by decide +kernel
theorem dX7_cheap_133 : decode cX7_cheap 133 = .ok (.goto 5, 3) := by decide +kernel
theorem dX7_cheap_136 : decode cX7_cheap 136 = .ok (.iload 4, 2) := by decide +kernel
theorem dX7_cheap_138 : decode cX7_cheap 138 = .ok (.istore 4, 2) := by decide +kernel
theorem dX7_cheap_140 : decode cX7_cheap 140 = .ok (.iinc 5 1, 3) := by decide +kernel
theorem dX7_cheap_143 : decode cX7_cheap 143 = .ok (.goto (-97), 3) := by decide +kernel
theorem dX7_cheap_146 : decode cX7_cheap 146 = .ok (.iload 4, 2) := by decide +kernel
theorem dX7_cheap_148 : decode cX7_cheap 148 = .ok (.sipush 1000, 3) := by decide +kernel
theorem dX7_cheap_151 : decode cX7_cheap 151 = .ok (.if_icmp .ne 8, 3) := by decide +kernel
theorem dX7_cheap_154 : decode cX7_cheap 154 = .ok (.bipush (-4), 2) := by decide +kernel
theorem dX7_cheap_156 : decode cX7_cheap 156 = .ok (.goto 5, 3) := by decide +kernel
theorem dX7_cheap_159 : decode cX7_cheap 159 = .ok (.iload 4, 2) := by decide +kernel
theorem dX7_cheap_161 : decode cX7_cheap 161 = .ok (.ireturn, 1) := by decide +kernel
theorem dX7_more_0 : decode cX7_more 0 = .ok (.aload_n 0, 1) := by decide +kernel
theorem dX7_more_1 : decode cX7_more 1 = .ok (.iload_n 1, 1) := by decide +kernel
theorem dX7_more_2 : decode cX7_more 2 = .ok (.invokevirtual 182, 3) := by decide +kernel
theorem dX7_more_5 : decode cX7_more 5 = .ok (.ifCond .eq 11, 3) := by decide +kernel
theorem dX7_more_8 : decode cX7_more 8 = .ok (.aload_n 0, 1) := by decide +kernel
theorem dX7_more_9 : decode cX7_more 9 = .ok (.iload_n 2, 1) := by decide +kernel
theorem dX7_more_10 : decode cX7_more 10 = .ok (.invokevirtual 176, 3) := by decide +kernel
theorem dX7_more_13 : decode cX7_more 13 = .ok (.ifCond .ne 5, 3) := by decide +kernel
theorem dX7_more_16 : decode cX7_more 16 = .ok (.iconst (-1), 1) := by decide +kernel
theorem dX7_more_17 : decode cX7_more 17 = .ok (.ireturn, 1) := by decide +kernel
theorem dX7_more_18 : decode cX7_more 18 = .ok (.aload_n 0, 1) := by decide +kernel
theorem dX7_more_19 : decode cX7_more 19 = .ok (.iconst 0, 1) := by decide +kernel
theorem dX7_more_20 : decode cX7_more 20 = .ok (.bipush 10, 2) := by decide +kernel
theorem dX7_more_22 : decode cX7_more 22 = .ok (.invokevirtual 222, 3) := by decide +kernel
theorem dX7_more_25 : decode cX7_more 25 = .ok (.istore_n 3, 1) := by decide +kernel
theorem dX7_more_26 : decode cX7_more 26 = .ok (.iconst 0, 1) := by decide +kernel
theorem dX7_more_27 : decode cX7_more 27 = .ok (.istore 4, 2) := by decide +kernel
theorem dX7_more_29 : decode cX7_more 29 = .ok (.iconst 1, 1) := by decide +kernel
theorem dX7_more_30 : decode cX7_more 30 = .ok (.istore 5, 2) := by decide +kernel
theorem dX7_more_32 : decode cX7_more 32 = .ok (.iload 5, 2) := by decide +kernel
theorem dX7_more_34 : decode cX7_more 34 = .ok (.bipush 99, 2) := by decide +kernel
theorem dX7_more_36 : decode cX7_more 36 = .ok (.if_icmp .gt 48, 3) := by decide +kernel
theorem dX7_more_39 : decode cX7_more 39 = .ok (.aload_n 0, 1) := by decide +kernel
theorem dX7_more_40 : decode cX7_more 40 = .ok (.iconst 0, 1) := by decide +kernel
theorem dX7_more_41 : decode cX7_more 41 = .ok (.sipush 275, 3) := by decide +kernel
theorem dX7_more_44 : decode cX7_more 44 = .ok (.invokevirtual 212, 3) := by decide +kernel
theorem dX7_more_47 : decode cX7_more 47 = .ok (.aload_n 0, 1) := by decide +kernel
theorem dX7_more_48 : decode cX7_more 48 = .ok (.sipush 275, 3) := by decide +kernel
theorem dX7_more_51 : decode cX7_more 51 = .ok (.iload_n 1, 1) := by decide +kernel
theorem dX7_more_52 : decode cX7_more 52 = .ok (.iload_n 2, 1) := by decide +kernel
theorem dX7_more_53 : decode cX7_more 53 = .ok (.iload 5, 2) := by decide +kernel
theorem dX7_more_55 : decode cX7_more 55 = .ok (.invokevirtual 199, 3) := by decide +kernel
theorem dX7_more_58 : decode cX7_more 58 = .ok (.ifCond .le 20, 3) := by decide +kernel
theorem dX7_more_61 : decode cX7_more 61 = .ok (.aload_n 0, 1) := by decide +kernel
theorem dX7_more_62 : decode cX7_more 62 = .ok (.sipush 275, 3) := by decide +kernel
theorem dX7_more_65 : decode cX7_more 65 = .ok (.bipush 10, 2) := by decide +kernel
theorem dX7_more_67 : decode cX7_more 67 = .ok (.invokevirtual 222, 3) := by decide +kernel
theorem dX7_more_70 : decode cX7_more 70 = .ok (.iload_n 3, 1) := by decide +kernel
theorem dX7_more_71 : decode cX7_more 71 = .ok (.if_icmp .gt 7, 3) := by decide +kernel
theorem dX7_more_74 : decode cX7_more 74 = .ok (.iload 5, 2) := by decide +kernel
theorem dX7_more_76 : decode cX7_more 76 = .ok (.istore 4, 2) := by decide +kernel
theorem dX7_more_78 : decode cX7_more 78 = .ok (.iinc 5 1, 3) := by decide +kernel
theorem dX7_more_81 : decode cX7_more 81 = .ok (.goto (-49), 3) := by decide +kernel
theorem dX7_more_84 : decode cX7_more 84 = .ok (.iload 4, 2) := by decide +kernel
theorem dX7_more_86 : decode cX7_more 86 = .ok (.ireturn, 1) := by decide +kernel
theorem dX7_swap_0 : decode cX7_swap 0 = .ok (.iload_n 1, 1) := by decide +kernel
theorem dX7_swap_1 : decode cX7_swap 1 = .ok (.i2l, 1) := by decide +kernel
theorem dX7_swap_2 : decode cX7_swap 2 = .ok (.lconst 0, 1) := by decide +kernel
theorem dX7_swap_3 : decode cX7_swap 3 = .ok (.lconst 1, 1) := by decide +kernel
theorem dX7_swap_4 : decode cX7_swap 4 = .ok (.invokestatic 55, 3) := by decide +kernel
theorem dX7_swap_7 : decode cX7_swap 7 = .ok (.ifCond .ne 5, 3) := by decide +kernel
theorem dX7_swap_10 : decode cX7_swap 10 = .ok (.iconst (-1), 1) := by decide +kernel
theorem dX7_swap_11 : decode cX7_swap 11 = .ok (.ireturn, 1) := by decide +kernel
theorem dX7_swap_12 : decode cX7_swap 12 = .ok (.aload_n 0, 1) := by decide +kernel
theorem dX7_swap_13 : decode cX7_swap 13 = .ok (.iconst 0, 1) := by decide +kernel
theorem dX7_swap_14 : decode cX7_swap 14 = .ok (.bipush 20, 2) := by decide +kernel
theorem dX7_swap_16 : decode cX7_swap 16 = .ok (.invokevirtual 222, 3) := by decide +kernel
theorem dX7_swap_19 : decode cX7_swap 19 = .ok (.istore_n 2, 1) := by decide +kernel
theorem dX7_swap_20 : decode cX7_swap 20 = .ok (.bipush (-4), 2) := by decide +kernel
theorem dX7_swap_22 : decode cX7_swap 22 = .ok (.istore_n 3, 1) := by decide +kernel
theorem dX7_swap_23 : decode cX7_swap 23 = .ok (.iconst 0, 1) := by decide +kernel
theorem dX7_swap_24 : decode cX7_swap 24 = .ok (.istore 4, 2) := by decide +kernel
theorem dX7_swap_26 : decode cX7_swap 26 = .ok (.iload 4, 2) := by decide +kernel
theorem dX7_swap_28 : decode cX7_swap 28 = .ok (.aload_n 0, 1) := by decide +kernel
theorem dX7_swap_29 : decode cX7_swap 29 = .ok (.getfield 145, 3) := by decide +kernel
theorem dX7_swap_32 : decode cX7_swap 32 = .ok (.if_icmp .ge 161, 3) := by decide +kernel
theorem dX7_swap_35 : decode cX7_swap 35 = .ok (.iload 4, 2) := by decide +kernel
theorem dX7_swap_37 : decode cX7_swap 37 = .ok (.iconst 1, 1) := by decide +kernel
theorem dX7_swap_38 : decode cX7_swap 38 = .ok (.iadd, 1) := by decide +kernel
theorem dX7_swap_39 : decode cX7_swap 39 = .ok (.istore 5, 2) := by decide +kernel
theorem dX7_swap_41 : decode cX7_swap 41 = .ok (.iload 5, 2) := by decide +kernel
theorem dX7_swap_43 : decode cX7_swap 43 = .ok (.aload_n 0, 1) := by decide +kernel
theorem dX7_swap_44 : decode cX7_swap 44 = .ok (.getfield 145, 3) := by decide +kernel
theorem dX7_swap_47 : decode cX7_swap 47 = .ok (.if_icmp .ge 140, 3) := by decide +kernel
theorem dX7_swap_50 : decode cX7_swap 50 = .ok (.aload_n 0, 1) := by decide +kernel
theorem dX7_swap_51 : decode cX7_swap 51 = .ok (.iconst 0, 1) := by decide +kernel
theorem dX7_swap_52 : decode cX7_swap 52 = .ok (.sipush 275, 3) := by decide +kernel
theorem dX7_swap_55 : decode cX7_swap 55 = .ok (.invokevirtual 212, 3) := by decide +kernel
theorem dX7_swap_58 : decode cX7_swap 58 = .ok (.iconst 0, 1) := by decide +kernel
theorem dX7_swap_59 : decode cX7_swap 59 = .ok (.istore 6, 2) := by decide +kernel
theorem dX7_swap_61 : decode cX7_swap 61 = .ok (.iload 6, 2) := by decide +kernel
theorem dX7_swap_63 : decode cX7_swap 63 = .ok (.aload_n 0, 1) := by decide +kernel
theorem dX7_swap_64 : decode cX7_swap 64 = .ok (.getfield 142, 3) := by decide +kernel
theorem dX7_swap_67 : decode cX7_swap 67 = .ok (.if_icmp .ge 71, 3) := by decide +kernel
theorem dX7_swap_70 : decode cX7_swap 70 = .ok (.aload_n 0, 1) := by decide +kernel
theorem dX7_swap_71 : decode cX7_swap 71 = .ok (.getfield 7, 3) := by decide +kernel
theorem dX7_swap_74 : decode cX7_swap 74 = .ok (.sipush 308, 3) := by decide +kernel
theorem dX7_swap_77 : decode cX7_swap 77 = .ok (.iconst 5, 1) := by decide +kernel
theorem dX7_swap_78 : decode cX7_swap 78 = .ok (.iload 4, 2) := by decide +kernel
theorem dX7_swap_80 : decode cX7_swap 80 = .ok (.imul, 1) := by decide +kernel
theorem dX7_swap_81 : decode cX7_swap 81 = .ok (.iadd, 1) := by decide +kernel
theorem dX7_swap_82 : decode cX7_swap 82 = .ok (.iload 6, 2) := by decide +kernel
theorem dX7_swap_84 : decode cX7_swap 84 = .ok (.iadd, 1) := by decide +kernel
theorem dX7_swap_85 : decode cX7_swap 85 = .ok (.aload_n 0, 1) := by decide +kernel
theorem dX7_swap_86 : decode cX7_swap 86 = .ok (.getfield 7, 3) := by decide +kernel
theorem dX7_swap_89 : decode cX7_swap 89 = .ok (.bipush 33, 2) := by decide +kernel
theorem dX7_swap_91 : decode cX7_swap 91 = .ok (.iconst 5, 1) := by decide +kernel
theorem dX7_swap_92 : decode cX7_swap 92 = .ok (.iload 5, 2) := by decide +kernel
theorem dX7_swap_94 : decode cX7_swap 94 = .ok (.imul, 1) := by decide +kernel
theorem dX7_swap_95 : decode cX7_swap 95 = .ok (.iadd, 1) := by decide +kernel
theorem dX7_swap_96 : decode cX7_swap 96 = .ok (.iload 6, 2) := by decide +kernel
theorem dX7_swap_98 : decode cX7_swap 98 = .ok (.iadd, 1) := by decide +kernel
theorem dX7_swap_99 : decode cX7_swap 99 = .ok (.iaload, 1) := by decide +kernel
theorem dX7_swap_100 : decode cX7_swap 100 = .ok (.iastore, 1) := by decide +kernel
theorem dX7_swap_101 : decode cX7_swap 101 = .ok (.aload_n 0, 1) := by decide +kernel
theorem dX7_swap_102 : decode cX7_swap 102 = .ok (.getfield 7, 3) := by decide +kernel
theorem dX7_swap_105 : decode cX7_swap 105 = .ok (.sipush 308, 3) := by decide +kernel
theorem dX7_swap_108 : decode cX7_swap 108 = .ok (.iconst 5, 1) := by decide +kernel
theorem dX7_swap_109 : decode cX7_swap 109 = .ok (.iload 5, 2) := by decide +kernel
theorem dX7_swap_111 : decode cX7_swap 111 = .ok (.imul, 1) := by decide +kernel
theorem dX7_swap_112 : decode cX7_swap 112 = .ok (.iadd, 1) := by decide +kernel
theorem dX7_swap_113 : decode cX7_swap 113 = .ok (.iload 6, 2) := by decide +kernel
theorem dX7_swap_115 : decode cX7_swap 115 = .ok (.iadd, 1) := by decide +kernel
theorem dX7_swap_116 : decode cX7_swap 116 = .ok (.aload_n 0, 1) := by decide +kernel
theorem dX7_swap_117 : decode cX7_swap 117 = .ok (.getfield 7, 3) := by decide +kernel
theorem dX7_swap_120 : decode cX7_swap 120 = .ok (.bipush 33, 2) := by decide +kernel
theorem dX7_swap_122 : decode cX7_swap 122 = .ok (.iconst 5, 1) := by decide +kernel
theorem dX7_swap_123 : decode cX7_swap 123 = .ok (.iload 4, 2) := by decide +kernel
theorem dX7_swap_125 : decode cX7_swap 125 = .ok (.imul, 1) := by decide +kernel
theorem dX7_swap_126 : decode cX7_swap 126 = .ok (.iadd, 1) := by decide +kernel
theorem dX7_swap_127 : decode cX7_swap 127 = .ok (.iload 6, 2) := by decide +kernel
theorem dX7_swap_129 : decode cX7_swap 129 = .ok (.iadd, 1) := by decide +kernel
theorem dX7_swap_130 : decode cX7_swap 130 = .ok (.iaload, 1) := by decide +kernel
theorem dX7_swap_131 : decode cX7_swap 131 = .ok (.iastore, 1) := by decide +kernel
theorem dX7_swap_132 : decode cX7_swap 132 = .ok (.iinc 6 1, 3) := by decide +kernel
theorem dX7_swap_135 : decode cX7_swap 135 = .ok (.goto (-74), 3) := by decide +kernel
theorem dX7_swap_138 : decode cX7_swap 138 = .ok (.aload_n 0, 1) := by decide +kernel
theorem dX7_swap_139 : decode cX7_swap 139 = .ok (.sipush 275, 3) := by decide +kernel
theorem dX7_swap_142 : decode cX7_swap 142 = .ok (.bipush 20, 2) := by decide +kernel
theorem dX7_swap_144 : decode cX7_swap 144 = .ok (.invokevirtual 222, 3) := by decide +kernel
theorem dX7_swap_147 : decode cX7_swap 147 = .ok (.istore 6, 2) := by decide +kernel
theorem dX7_swap_149 : decode cX7_swap 149 = .ok (.iload 6, 2) := by decide +kernel
theorem dX7_swap_151 : decode cX7_swap 151 = .ok (.iload_n 2, 1) := by decide +kernel
theorem dX7_swap_152 : decode cX7_swap 152 = .ok (.if_icmp .ge 14, 3) := by decide +kernel
theorem dX7_swap_155 : decode cX7_swap 155 = .ok (.bipush 10, 2) := by decide +kernel
theorem dX7_swap_157 : decode cX7_swap 157 = .ok (.iload 4, 2) := by decide +kernel
theorem dX7_swap_159 : decode cX7_swap 159 = .ok (.imul, 1) := by decide +kernel
theorem dX7_swap_160 : decode cX7_swap 160 = .ok (.iload 5, 2) := by decide +kernel
theorem dX7_swap_162 : decode cX7_swap 162 = .ok (.iadd, 1) := by decide +kernel
theorem dX7_swap_163 : decode cX7_swap 163 = .ok (.goto 4, 3) := by decide +kernel
theorem dX7_swap_166 : decode cX7_swap 166 = .ok (.iload_n 3, 1) := by decide +kernel
theorem dX7_swap_167 : decode cX7_swap 167 = .ok (.istore_n 3, 1) := by decide +kernel
theorem dX7_swap_168 : decode cX7_swap 168 = .ok (.iload 6, 2) := by decide +kernel
theorem dX7_swap_170 : decode cX7_swap 170 = .ok (.iload_n 2, 1) := by decide +kernel
theorem dX7_swap_171 : decode cX7_swap 171 = .ok (.if_icmp .ge 8, 3) := by decide +kernel
theorem dX7_swap_174 : decode cX7_swap 174 = .ok (.iload 6, 2) := by decide +kernel
theorem dX7_swap_176 : decode cX7_swap 176 = .ok (.goto 4, 3) := by decide +kernel
theorem dX7_swap_179 : decode cX7_swap 179 = .ok (.iload_n 2, 1) := by decide +kernel
theorem dX7_swap_180 : decode cX7_swap 180 = .ok (.istore_n 2, 1) := by decide +kernel
theorem dX7_swap_181 : decode cX7_swap 181 = .ok (.iinc 5 1, 3) := by decide +kernel
theorem dX7_swap_184 : decode cX7_swap 184 = .ok (.goto (-143), 3) := by decide +kernel
theorem dX7_swap_187 : decode cX7_swap 187 = .ok (.iinc 4 1, 3) := by decide +kernel
theorem dX7_swap_190 : decode cX7_swap 190 = .ok (.goto (-164), 3) := by decide +kernel
theorem dX7_swap_193 : decode cX7_swap 193 = .ok (.iload_n 3, 1) := by decide +kernel
theorem dX7_swap_194 : decode cX7_swap 194 = .ok (.bipush (-4), 2) := by decide +kernel
theorem dX7_swap_196 : decode cX7_swap 196 = .ok (.if_icmp .eq 7, 3) := by decide +kernel
theorem dX7_swap_199 : decode cX7_swap 199 = .ok (.iload_n 1, 1) := by decide +kernel
theorem dX7_swap_200 : decode cX7_swap 200 = .ok (.ifCond .ne 7, 3) := by decide +kernel
theorem dX7_swap_203 : decode cX7_swap 203 = .ok (.iload_n 3, 1) := by decide +kernel
theorem dX7_swap_204 : decode cX7_swap 204 = .ok (.goto 4, 3) := by decide +kernel
theorem dX7_swap_207 : decode cX7_swap 207 = .ok (.iload_n 2, 1) := by decide +kernel
theorem dX7_swap_208 : decode cX7_swap 208 = .ok (.ireturn, 1) := by decide +kernel
theorem dX7_shed_0 : decode cX7_shed 0 = .ok (.aload_n 0, 1) := by decide +kernel
theorem dX7_shed_1 : decode cX7_shed 1 = .ok (.iload_n 1, 1) := by decide +kernel
theorem dX7_shed_2 : decode cX7_shed 2 = .ok (.invokevirtual 182, 3) := by decide +kernel
theorem dX7_shed_5 : decode cX7_shed 5 = .ok (.ifCond .eq 13, 3) := by decide +kernel
theorem dX7_shed_8 : decode cX7_shed 8 = .ok (.iload_n 2, 1) := by decide +kernel
theorem dX7_shed_9 : decode cX7_shed 9 = .ok (.i2l, 1) := by decide +kernel
theorem dX7_shed_10 : decode cX7_shed 10 = .ok (.lconst 0, 1) := by decide +kernel
theorem dX7_shed_11 : decode cX7_shed 11 = .ok (.lconst 1, 1) := by decide +kernel
theorem dX7_shed_12 : decode cX7_shed 12 = .ok (.invokestatic 55, 3) := by decide +kernel
theorem dX7_shed_15 : decode cX7_shed 15 = .ok (.ifCond .ne 5, 3) := by decide +kernel
theorem dX7_shed_18 : decode cX7_shed 18 = .ok (.iconst (-1), 1) := by decide +kernel
theorem dX7_shed_19 : decode cX7_shed 19 = .ok (.ireturn, 1) := by decide +kernel
theorem dX7_shed_20 : decode cX7_shed 20 = .ok (.aload_n 0, 1) := by decide +kernel
theorem dX7_shed_21 : decode cX7_shed 21 = .ok (.iconst 0, 1) := by decide +kernel
theorem dX7_shed_22 : decode cX7_shed 22 = .ok (.bipush 20, 2) := by decide +kernel
theorem dX7_shed_24 : decode cX7_shed 24 = .ok (.invokevirtual 222, 3) := by decide +kernel
theorem dX7_shed_27 : decode cX7_shed 27 = .ok (.pop, 1) := by decide +kernel
theorem dX7_shed_28 : decode cX7_shed 28 = .ok (.aload_n 0, 1) := by decide +kernel
theorem dX7_shed_29 : decode cX7_shed 29 = .ok (.sipush 220, 3) := by decide +kernel
theorem dX7_shed_32 : decode cX7_shed 32 = .ok (.iload_n 1, 1) := by decide +kernel
theorem dX7_shed_33 : decode cX7_shed 33 = .ok (.invokevirtual 151, 3) := by decide +kernel
theorem dX7_shed_36 : decode cX7_shed 36 = .ok (.istore_n 3, 1) := by decide +kernel
theorem dX7_shed_37 : decode cX7_shed 37 = .ok (.bipush (-4), 2) := by decide +kernel
theorem dX7_shed_39 : decode cX7_shed 39 = .ok (.istore 4, 2) := by decide +kernel
theorem dX7_shed_41 : decode cX7_shed 41 = .ok (.iconst 0, 1) := by decide +kernel
theorem dX7_shed_42 : decode cX7_shed 42 = .ok (.istore 5, 2) := by decide +kernel
theorem dX7_shed_44 : decode cX7_shed 44 = .ok (.iload 5, 2) := by decide +kernel
theorem dX7_shed_46 : decode cX7_shed 46 = .ok (.aload_n 0, 1) := by decide +kernel
theorem dX7_shed_47 : decode cX7_shed 47 = .ok (.getfield 142, 3) := by decide +kernel
theorem dX7_shed_50 : decode cX7_shed 50 = .ok (.if_icmp .ge 89, 3) := by decide +kernel
theorem dX7_shed_53 : decode cX7_shed 53 = .ok (.aload_n 0, 1) := by decide +kernel
theorem dX7_shed_54 : decode cX7_shed 54 = .ok (.iconst 0, 1) := by decide +kernel
theorem dX7_shed_55 : decode cX7_shed 55 = .ok (.sipush 275, 3) := by decide +kernel
theorem dX7_shed_58 : decode cX7_shed 58 = .ok (.invokevirtual 212, 3) := by decide +kernel
theorem dX7_shed_61 : decode cX7_shed 61 = .ok (.aload_n 0, 1) := by decide +kernel
theorem dX7_shed_62 : decode cX7_shed 62 = .ok (.sipush 275, 3) := by decide +kernel
theorem dX7_shed_65 : decode cX7_shed 65 = .ok (.iload_n 1, 1) := by decide +kernel
theorem dX7_shed_66 : decode cX7_shed 66 = .ok (.iload 5, 2) := by decide +kernel
theorem dX7_shed_68 : decode cX7_shed 68 = .ok (.aload_n 0, 1) := by decide +kernel
theorem dX7_shed_69 : decode cX7_shed 69 = .ok (.getfield 7, 3) := by decide +kernel
theorem dX7_shed_72 : decode cX7_shed 72 = .ok (.bipush 33, 2) := by decide +kernel
theorem dX7_shed_74 : decode cX7_shed 74 = .ok (.iconst 5, 1) := by decide +kernel
theorem dX7_shed_75 : decode cX7_shed 75 = .ok (.iload_n 1, 1) := by decide +kernel
theorem dX7_shed_76 : decode cX7_shed 76 = .ok (.imul, 1) := by decide +kernel
theorem dX7_shed_77 : decode cX7_shed 77 = .ok (.iadd, 1) := by decide +kernel
theorem dX7_shed_78 : decode cX7_shed 78 = .ok (.iload 5, 2) := by decide +kernel
theorem dX7_shed_80 : decode cX7_shed 80 = .ok (.iadd, 1) := by decide +kernel
theorem dX7_shed_81 : decode cX7_shed 81 = .ok (.iaload, 1) := by decide +kernel
theorem dX7_shed_82 : decode cX7_shed 82 = .ok (.invokevirtual 203, 3) := by decide +kernel
theorem dX7_shed_85 : decode cX7_shed 85 = .ok (.aload_n 0, 1) := by decide +kernel
theorem dX7_shed_86 : decode cX7_shed 86 = .ok (.sipush 275, 3) := by decide +kernel
theorem dX7_shed_89 : decode cX7_shed 89 = .ok (.bipush 20, 2) := by decide +kernel
theorem dX7_shed_91 : decode cX7_shed 91 = .ok (.invokevirtual 222, 3) := by decide +kernel
theorem dX7_shed_94 : decode cX7_shed 94 = .ok (.pop, 1) := by decide +kernel
theorem dX7_shed_95 : decode cX7_shed 95 = .ok (.aload_n 0, 1) := by decide +kernel
theorem dX7_shed_96 : decode cX7_shed 96 = .ok (.sipush 220, 3) := by decide +kernel
theorem dX7_shed_99 : decode cX7_shed 99 = .ok (.iload_n 1, 1) := by decide +kernel
theorem dX7_shed_100 : decode cX7_shed 100 = .ok (.invokevirtual 151, 3) := by decide +kernel
theorem dX7_shed_103 : decode cX7_shed 103 = .ok (.istore 6, 2) := by decide +kernel
theorem dX7_shed_105 : decode cX7_shed 105 = .ok (.iload 6, 2) := by decide +kernel
theorem dX7_shed_107 : decode cX7_shed 107 = .ok (.iload_n 3, 1) := by decide +kernel
theorem dX7_shed_108 : decode cX7_shed 108 = .ok (.if_icmp .le 8, 3) := by decide +kernel
theorem dX7_shed_111 : decode cX7_shed 111 = .ok (.iload 5, 2) := by decide +kernel
theorem dX7_shed_113 : decode cX7_shed 113 = .ok (.goto 5, 3) := by decide +kernel
theorem dX7_shed_116 : decode cX7_shed 116 = .ok (.iload 4, 2) := by decide +kernel
theorem dX7_shed_118 : decode cX7_shed 118 = .ok (.istore 4, 2) := by decide +kernel
theorem dX7_shed_120 : decode cX7_shed 120 = .ok (.iload 6, 2) := by decide +kernel
theorem dX7_shed_122 : decode cX7_shed 122 = .ok (.iload_n 3, 1) := by decide +kernel
theorem dX7_shed_123 : decode cX7_shed 123 = .ok (.if_icmp .le 8, 3) := by decide +kernel
theorem dX7_shed_126 : decode cX7_shed 126 = .ok (.iload 6, 2) := by decide +kernel
theorem dX7_shed_128 : decode cX7_shed 128 = .ok (.goto 4, 3) := by decide +kernel
theorem dX7_shed_131 : decode cX7_shed 131 = .ok (.iload_n 3, 1) := by decide +kernel
theorem dX7_shed_132 : decode cX7_shed 132 = .ok (.istore_n 3, 1) := by decide +kernel
theorem dX7_shed_133 : decode cX7_shed 133 = .ok (.iinc 5 1, 3) := by decide +kernel
theorem dX7_shed_136 : decode cX7_shed 136 = .ok (.goto (-92), 3) := by decide +kernel
theorem dX7_shed_139 : decode cX7_shed 139 = .ok (.iload 4, 2) := by decide +kernel
theorem dX7_shed_141 : decode cX7_shed 141 = .ok (.bipush (-4), 2) := by decide +kernel
theorem dX7_shed_143 : decode cX7_shed 143 = .ok (.if_icmp .eq 7, 3) := by decide +kernel
theorem dX7_shed_146 : decode cX7_shed 146 = .ok (.iload_n 2, 1) := by decide +kernel
theorem dX7_shed_147 : decode cX7_shed 147 = .ok (.ifCond .ne 8, 3) := by decide +kernel
theorem dX7_shed_150 : decode cX7_shed 150 = .ok (.iload 4, 2) := by decide +kernel
theorem dX7_shed_152 : decode cX7_shed 152 = .ok (.goto 4, 3) := by decide +kernel
theorem dX7_shed_155 : decode cX7_shed 155 = .ok (.iload_n 3, 1) := by decide +kernel
theorem dX7_shed_156 : decode cX7_shed 156 = .ok (.ireturn, 1) := by decide +kernel
theorem dX7_need_0 : decode cX7_need 0 = .ok (.aload_n 0, 1) := by decide +kernel
theorem dX7_need_1 : decode cX7_need 1 = .ok (.iload_n 1, 1) := by decide +kernel
theorem dX7_need_2 : decode cX7_need 2 = .ok (.invokevirtual 182, 3) := by decide +kernel
theorem dX7_need_5 : decode cX7_need 5 = .ok (.ifCond .eq 15, 3) := by decide +kernel
theorem dX7_need_8 : decode cX7_need 8 = .ok (.iload_n 2, 1) := by decide +kernel
theorem dX7_need_9 : decode cX7_need 9 = .ok (.i2l, 1) := by decide +kernel
theorem dX7_need_10 : decode cX7_need 10 = .ok (.lconst 0, 1) := by decide +kernel
theorem dX7_need_11 : decode cX7_need 11 = .ok (.ldc2_w 218, 3) := by decide +kernel
theorem dX7_need_14 : decode cX7_need 14 = .ok (.invokestatic 55, 3) := by decide +kernel
theorem dX7_need_17 : decode cX7_need 17 = .ok (.ifCond .ne 5, 3) := by decide +kernel
theorem dX7_need_20 : decode cX7_need 20 = .ok (.iconst (-1), 1) := by decide +kernel
theorem dX7_need_21 : decode cX7_need 21 = .ok (.ireturn, 1) := by decide +kernel
theorem dX7_need_22 : decode cX7_need 22 = .ok (.iconst 0, 1) := by decide +kernel
theorem dX7_need_23 : decode cX7_need 23 = .ok (.istore_n 3, 1) := by decide +kernel
theorem dX7_need_24 : decode cX7_need 24 = .ok (.iload_n 3, 1) := by decide +kernel
theorem dX7_need_25 : decode cX7_need 25 = .ok (.bipush 99, 2) := by decide +kernel
theorem dX7_need_27 : decode cX7_need 27 = .ok (.if_icmp .gt 48, 3) := by decide +kernel
theorem dX7_need_30 : decode cX7_need 30 = .ok (.aload_n 0, 1) := by decide +kernel
theorem dX7_need_31 : decode cX7_need 31 = .ok (.iconst 0, 1) := by decide +kernel
theorem dX7_need_32 : decode cX7_need 32 = .ok (.sipush 275, 3) := by decide +kernel
theorem dX7_need_35 : decode cX7_need 35 = .ok (.invokevirtual 212, 3) := by decide +kernel
theorem dX7_need_38 : decode cX7_need 38 = .ok (.aload_n 0, 1) := by decide +kernel
theorem dX7_need_39 : decode cX7_need 39 = .ok (.getfield 7, 3) := by decide +kernel
theorem dX7_need_42 : decode cX7_need 42 = .ok (.sipush 304, 3) := by decide +kernel
theorem dX7_need_45 : decode cX7_need 45 = .ok (.iload_n 1, 1) := by decide +kernel
theorem dX7_need_46 : decode cX7_need 46 = .ok (.iadd, 1) := by decide +kernel
theorem dX7_need_47 : decode cX7_need 47 = .ok (.iload_n 3, 1) := by decide +kernel
theorem dX7_need_48 : decode cX7_need 48 = .ok (.iastore, 1) := by decide +kernel
theorem dX7_need_49 : decode cX7_need 49 = .ok (.aload_n 0, 1) := by decide +kernel
theorem dX7_need_50 : decode cX7_need 50 = .ok (.sipush 275, 3) := by decide +kernel
theorem dX7_need_53 : decode cX7_need 53 = .ok (.iload_n 2, 1) := by decide +kernel
theorem dX7_need_54 : decode cX7_need 54 = .ok (.invokevirtual 222, 3) := by decide +kernel
theorem dX7_need_57 : decode cX7_need 57 = .ok (.pop, 1) := by decide +kernel
theorem dX7_need_58 : decode cX7_need 58 = .ok (.aload_n 0, 1) := by decide +kernel
theorem dX7_need_59 : decode cX7_need 59 = .ok (.getfield 25, 3) := by decide +kernel
theorem dX7_need_62 : decode cX7_need 62 = .ok (.iload_n 1, 1) := by decide +kernel
theorem dX7_need_63 : decode cX7_need 63 = .ok (.iaload, 1) := by decide +kernel
theorem dX7_need_64 : decode cX7_need 64 = .ok (.ifCond .ne 5, 3) := by decide +kernel
theorem dX7_need_67 : decode cX7_need 67 = .ok (.iload_n 3, 1) := by decide +kernel
theorem dX7_need_68 : decode cX7_need 68 = .ok (.ireturn, 1) := by decide +kernel
theorem dX7_need_69 : decode cX7_need 69 = .ok (.iinc 3 1, 3) := by decide +kernel
theorem dX7_need_72 : decode cX7_need 72 = .ok (.goto (-48), 3) := by decide +kernel
theorem dX7_need_75 : decode cX7_need 75 = .ok (.bipush (-4), 2) := by decide +kernel
theorem dX7_need_77 : decode cX7_need 77 = .ok (.ireturn, 1) := by decide +kernel
theorem dX7_kind_0 : decode cX7_kind 0 = .ok (.aload_n 0, 1) := by decide +kernel
theorem dX7_kind_1 : decode cX7_kind 1 = .ok (.iload_n 1, 1) := by decide +kernel
theorem dX7_kind_2 : decode cX7_kind 2 = .ok (.invokevirtual 176, 3) := by decide +kernel
theorem dX7_kind_5 : decode cX7_kind 5 = .ok (.ifCond .eq 25, 3) := by decide +kernel
theorem dX7_kind_8 : decode cX7_kind 8 = .ok (.iload_n 2, 1) := by decide +kernel
theorem dX7_kind_9 : decode cX7_kind 9 = .ok (.i2l, 1) := by decide +kernel
theorem dX7_kind_10 : decode cX7_kind 10 = .ok (.lconst 0, 1) := by decide +kernel
theorem dX7_kind_11 : decode cX7_kind 11 = .ok (.ldc2_w 218, 3) := by decide +kernel
theorem dX7_kind_14 : decode cX7_kind 14 = .ok (.invokestatic 55, 3) := by decide +kernel
theorem dX7_kind_17 : decode cX7_kind 17 = .ok (.ifCond .eq 13, 3) := by decide +kernel
theorem dX7_kind_20 : decode cX7_kind 20 = .ok (.iload_n 3, 1) := by decide +kernel
theorem dX7_kind_21 : decode cX7_kind 21 = .ok (.i2l, 1) := by decide +kernel
theorem dX7_kind_22 : decode cX7_kind 22 = .ok (.lconst 0, 1) := by decide +kernel
theorem dX7_kind_23 : decode cX7_kind 23 = .ok (.lconst 1, 1) := by decide +kernel
theorem dX7_kind_24 : decode cX7_kind 24 = .ok (.invokestatic 55, 3) := by decide +kernel
theorem dX7_kind_27 : decode cX7_kind 27 = .ok (.ifCond .ne 5, 3) := by decide +kernel
theorem dX7_kind_30 : decode cX7_kind 30 = .ok (.iconst (-1), 1) := by decide +kernel
theorem dX7_kind_31 : decode cX7_kind 31 = .ok (.ireturn, 1) := by decide +kernel
theorem dX7_kind_32 : decode cX7_kind 32 = .ok (.iconst (-1), 1) := by decide +kernel
theorem dX7_kind_33 : decode cX7_kind 33 = .ok (.istore 4, 2) := by decide +kernel
theorem dX7_kind_35 : decode cX7_kind 35 = .ok (.iconst 0, 1) := by decide +kernel
theorem dX7_kind_36 : decode cX7_kind 36 = .ok (.istore 5, 2) := by decide +kernel
theorem dX7_kind_38 : decode cX7_kind 38 = .ok (.iconst 0, 1) := by decide +kernel
theorem dX7_kind_39 : decode cX7_kind 39 = .ok (.istore 6, 2) := by decide +kernel
theorem dX7_kind_41 : decode cX7_kind 41 = .ok (.iload 6, 2) := by decide +kernel
theorem dX7_kind_43 : decode cX7_kind 43 = .ok (.iconst 4, 1) := by decide +kernel
theorem dX7_kind_44 : decode cX7_kind 44 = .ok (.if_icmp .ge 79, 3) := by decide +kernel
theorem dX7_kind_47 : decode cX7_kind 47 = .ok (.aload_n 0, 1) := by decide +kernel
theorem dX7_kind_48 : decode cX7_kind 48 = .ok (.iconst 0, 1) := by decide +kernel
theorem dX7_kind_49 : decode cX7_kind 49 = .ok (.sipush 275, 3) := by decide +kernel
theorem dX7_kind_52 : decode cX7_kind 52 = .ok (.invokevirtual 212, 3) := by decide +kernel
theorem dX7_kind_55 : decode cX7_kind 55 = .ok (.aload_n 0, 1) := by decide +kernel
theorem dX7_kind_56 : decode cX7_kind 56 = .ok (.getfield 7, 3) := by decide +kernel
theorem dX7_kind_59 : decode cX7_kind 59 = .ok (.sipush 275, 3) := by decide +kernel
theorem dX7_kind_62 : decode cX7_kind 62 = .ok (.iload_n 1, 1) := by decide +kernel
theorem dX7_kind_63 : decode cX7_kind 63 = .ok (.iadd, 1) := by decide +kernel
theorem dX7_kind_64 : decode cX7_kind 64 = .ok (.iload 6, 2) := by decide +kernel
theorem dX7_kind_66 : decode cX7_kind 66 = .ok (.iastore, 1) := by decide +kernel
theorem dX7_kind_67 : decode cX7_kind 67 = .ok (.aload_n 0, 1) := by decide +kernel
theorem dX7_kind_68 : decode cX7_kind 68 = .ok (.sipush 275, 3) := by decide +kernel
theorem dX7_kind_71 : decode cX7_kind 71 = .ok (.iload_n 2, 1) := by decide +kernel
theorem dX7_kind_72 : decode cX7_kind 72 = .ok (.invokevirtual 222, 3) := by decide +kernel
theorem dX7_kind_75 : decode cX7_kind 75 = .ok (.pop, 1) := by decide +kernel
theorem dX7_kind_76 : decode cX7_kind 76 = .ok (.aload_n 0, 1) := by decide +kernel
theorem dX7_kind_77 : decode cX7_kind 77 = .ok (.sipush 220, 3) := by decide +kernel
theorem dX7_kind_80 : decode cX7_kind 80 = .ok (.invokevirtual 173, 3) := by decide +kernel
theorem dX7_kind_83 : decode cX7_kind 83 = .ok (.istore 7, 2) := by decide +kernel
theorem dX7_kind_85 : decode cX7_kind 85 = .ok (.iload 7, 2) := by decide +kernel
theorem dX7_kind_87 : decode cX7_kind 87 = .ok (.iload 4, 2) := by decide +kernel
theorem dX7_kind_89 : decode cX7_kind 89 = .ok (.if_icmp .le 8, 3) := by decide +kernel
theorem dX7_kind_92 : decode cX7_kind 92 = .ok (.iload 6, 2) := by decide +kernel
theorem dX7_kind_94 : decode cX7_kind 94 = .ok (.goto 5, 3) := by decide +kernel
theorem dX7_kind_97 : decode cX7_kind 97 = .ok (.iload 5, 2) := by decide +kernel
theorem dX7_kind_99 : decode cX7_kind 99 = .ok (.istore 5, 2) := by decide +kernel
theorem dX7_kind_101 : decode cX7_kind 101 = .ok (.iload 7, 2) := by decide +kernel
theorem dX7_kind_103 : decode cX7_kind 103 = .ok (.iload 4, 2) := by decide +kernel
theorem dX7_kind_105 : decode cX7_kind 105 = .ok (.if_icmp .le 8, 3) := by decide +kernel
theorem dX7_kind_108 : decode cX7_kind 108 = .ok (.iload 7, 2) := by decide +kernel
theorem dX7_kind_110 : decode cX7_kind 110 = .ok (.goto 5, 3) := by decide +kernel
theorem dX7_kind_113 : decode cX7_kind 113 = .ok (.iload 4, 2) := by decide +kernel
theorem dX7_kind_115 : decode cX7_kind 115 = .ok (.istore 4, 2) := by decide +kernel
theorem dX7_kind_117 : decode cX7_kind 117 = .ok (.iinc 6 1, 3) := by decide +kernel
theorem dX7_kind_120 : decode cX7_kind 120 = .ok (.goto (-79), 3) := by decide +kernel
theorem dX7_kind_123 : decode cX7_kind 123 = .ok (.iload_n 3, 1) := by decide +kernel
theorem dX7_kind_124 : decode cX7_kind 124 = .ok (.ifCond .ne 8, 3) := by decide +kernel
theorem dX7_kind_127 : decode cX7_kind 127 = .ok (.iload 5, 2) := by decide +kernel
theorem dX7_kind_129 : decode cX7_kind 129 = .ok (.goto 5, 3) := by decide +kernel
theorem dX7_kind_132 : decode cX7_kind 132 = .ok (.iload 4, 2) := by decide +kernel
theorem dX7_kind_134 : decode cX7_kind 134 = .ok (.ireturn, 1) := by decide +kernel
theorem dX7_lowest_0 : decode cX7_lowest 0 = .ok (.lload_n 0, 1) := by decide +kernel
theorem dX7_lowest_1 : decode cX7_lowest 1 = .ok (.lstore 5, 2) := by decide +kernel
theorem dX7_lowest_3 : decode cX7_lowest 3 = .ok (.lload_n 2, 1) := by decide +kernel
theorem dX7_lowest_4 : decode cX7_lowest 4 = .ok (.lstore 7, 2) := by decide +kernel
theorem dX7_lowest_6 : decode cX7_lowest 6 = .ok (.lload 7, 2) := by decide +kernel
theorem dX7_lowest_8 : decode cX7_lowest 8 = .ok (.lconst 0, 1) := by decide +kernel
theorem dX7_lowest_9 : decode cX7_lowest 9 = .ok (.lcmp, 1) := by decide +kernel
theorem dX7_lowest_10 : decode cX7_lowest 10 = .ok (.ifCond .eq 21, 3) := by decide +kernel
theorem dX7_lowest_13 : decode cX7_lowest 13 = .ok (.lload 5, 2) := by decide +kernel
theorem dX7_lowest_15 : decode cX7_lowest 15 = .ok (.lload 7, 2) := by decide +kernel
theorem dX7_lowest_17 : decode cX7_lowest 17 = .ok (.lrem, 1) := by decide +kernel
theorem dX7_lowest_18 : decode cX7_lowest 18 = .ok (.lstore 9, 2) := by decide +kernel
theorem dX7_lowest_20 : decode cX7_lowest 20 = .ok (.lload 7, 2) := by decide +kernel
theorem dX7_lowest_22 : decode cX7_lowest 22 = .ok (.lstore 5, 2) := by decide +kernel
theorem dX7_lowest_24 : decode cX7_lowest 24 = .ok (.lload 9, 2) := by decide +kernel
theorem dX7_lowest_26 : decode cX7_lowest 26 = .ok (.lstore 7, 2) := by decide +kernel
theorem dX7_lowest_28 : decode cX7_lowest 28 = .ok (.goto (-22), 3) := by decide +kernel
theorem dX7_lowest_31 : decode cX7_lowest 31 = .ok (.iload 4, 2) := by decide +kernel
theorem dX7_lowest_33 : decode cX7_lowest 33 = .ok (.ifCond .ne 7, 3) := by decide +kernel
theorem dX7_lowest_36 : decode cX7_lowest 36 = .ok (.lload_n 0, 1) := by decide +kernel
theorem dX7_lowest_37 : decode cX7_lowest 37 = .ok (.goto 4, 3) := by decide +kernel
theorem dX7_lowest_40 : decode cX7_lowest 40 = .ok (.lload_n 2, 1) := by decide +kernel
theorem dX7_lowest_41 : decode cX7_lowest 41 = .ok (.lload 5, 2) := by decide +kernel
theorem dX7_lowest_43 : decode cX7_lowest 43 = .ok (.ldiv, 1) := by decide +kernel
theorem dX7_lowest_44 : decode cX7_lowest 44 = .ok (.lreturn, 1) := by decide +kernel
theorem dX7_bySun_0 : decode cX7_bySun 0 = .ok (.lconst 0, 1) := by decide +kernel
theorem dX7_bySun_1 : decode cX7_bySun 1 = .ok (.lstore 6, 2) := by decide +kernel
theorem dX7_bySun_3 : decode cX7_bySun 3 = .ok (.lconst 1, 1) := by decide +kernel
theorem dX7_bySun_4 : decode cX7_bySun 4 = .ok (.lstore 8, 2) := by decide +kernel
theorem dX7_bySun_6 : decode cX7_bySun 6 = .ok (.iconst 0, 1) := by decide +kernel
theorem dX7_bySun_7 : decode cX7_bySun 7 = .ok (.istore 10, 2) := by decide +kernel
theorem dX7_bySun_9 : decode cX7_bySun 9 = .ok (.iload 10, 2) := by decide +kernel
theorem dX7_bySun_11 : decode cX7_bySun 11 = .ok (.iload_n 3, 1) := by decide +kernel
theorem dX7_bySun_12 : decode cX7_bySun 12 = .ok (.if_icmp .ge 17, 3) := by decide +kernel
theorem dX7_bySun_15 : decode cX7_bySun 15 = .ok (.lload 8, 2) := by decide +kernel
theorem dX7_bySun_17 : decode cX7_bySun 17 = .ok (.ldc2_w 239, 3) := by decide +kernel
theorem dX7_bySun_20 : decode cX7_bySun 20 = .ok (.lmul, 1) := by decide +kernel
theorem dX7_bySun_21 : decode cX7_bySun 21 = .ok (.lstore 8, 2) := by decide +kernel
theorem dX7_bySun_23 : decode cX7_bySun 23 = .ok (.iinc 10 1, 3) := by decide +kernel
theorem dX7_bySun_26 : decode cX7_bySun 26 = .ok (.goto (-17), 3) := by decide +kernel
theorem dX7_bySun_29 : decode cX7_bySun 29 = .ok (.iconst 0, 1) := by decide +kernel
theorem dX7_bySun_30 : decode cX7_bySun 30 = .ok (.istore 10, 2) := by decide +kernel
theorem dX7_bySun_32 : decode cX7_bySun 32 = .ok (.iload 10, 2) := by decide +kernel
theorem dX7_bySun_34 : decode cX7_bySun 34 = .ok (.iconst 1, 1) := by decide +kernel
theorem dX7_bySun_35 : decode cX7_bySun 35 = .ok (.iload_n 3, 1) := by decide +kernel
theorem dX7_bySun_36 : decode cX7_bySun 36 = .ok (.ishl, 1) := by decide +kernel
theorem dX7_bySun_37 : decode cX7_bySun 37 = .ok (.if_icmp .ge 133, 3) := by decide +kernel
theorem dX7_bySun_40 : decode cX7_bySun 40 = .ok (.lconst 1, 1) := by decide +kernel
theorem dX7_bySun_41 : decode cX7_bySun 41 = .ok (.lstore 11, 2) := by decide +kernel
theorem dX7_bySun_43 : decode cX7_bySun 43 = .ok (.aload_n 0, 1) := by decide +kernel
theorem dX7_bySun_44 : decode cX7_bySun 44 = .ok (.iconst 0, 1) := by decide +kernel
theorem dX7_bySun_45 : decode cX7_bySun 45 = .ok (.sipush 220, 3) := by decide +kernel
theorem dX7_bySun_48 : decode cX7_bySun 48 = .ok (.invokevirtual 212, 3) := by decide +kernel
theorem dX7_bySun_51 : decode cX7_bySun 51 = .ok (.iconst 0, 1) := by decide +kernel
theorem dX7_bySun_52 : decode cX7_bySun 52 = .ok (.istore 13, 2) := by decide +kernel
theorem dX7_bySun_54 : decode cX7_bySun 54 = .ok (.iload 13, 2) := by decide +kernel
theorem dX7_bySun_56 : decode cX7_bySun 56 = .ok (.iload_n 3, 1) := by decide +kernel
theorem dX7_bySun_57 : decode cX7_bySun 57 = .ok (.if_icmp .ge 64, 3) := by decide +kernel
theorem dX7_bySun_60 : decode cX7_bySun 60 = .ok (.iload 10, 2) := by decide +kernel
theorem dX7_bySun_62 : decode cX7_bySun 62 = .ok (.iload 13, 2) := by decide +kernel
theorem dX7_bySun_64 : decode cX7_bySun 64 = .ok (.ishr, 1) := by decide +kernel
theorem dX7_bySun_65 : decode cX7_bySun 65 = .ok (.iconst 1, 1) := by decide +kernel
theorem dX7_bySun_66 : decode cX7_bySun 66 = .ok (.iand, 1) := by decide +kernel
theorem dX7_bySun_67 : decode cX7_bySun 67 = .ok (.iconst 1, 1) := by decide +kernel
theorem dX7_bySun_68 : decode cX7_bySun 68 = .ok (.if_icmp .ne 7, 3) := by decide +kernel
theorem dX7_bySun_71 : decode cX7_bySun 71 = .ok (.iconst 1, 1) := by decide +kernel
theorem dX7_bySun_72 : decode cX7_bySun 72 = .ok (.goto 4, 3) := by decide +kernel
theorem dX7_bySun_75 : decode cX7_bySun 75 = .ok (.iconst 0, 1) := by decide +kernel
theorem dX7_bySun_76 : decode cX7_bySun 76 = .ok (.istore 14, 2) := by decide +kernel
theorem dX7_bySun_78 : decode cX7_bySun 78 = .ok (.lload 11, 2) := by decide +kernel
theorem dX7_bySun_80 : decode cX7_bySun 80 = .ok (.iload 14, 2) := by decide +kernel
theorem dX7_bySun_82 : decode cX7_bySun 82 = .ok (.ifCond .eq 8, 3) := by decide +kernel
theorem dX7_bySun_85 : decode cX7_bySun 85 = .ok (.iload_n 1, 1) := by decide +kernel
theorem dX7_bySun_86 : decode cX7_bySun 86 = .ok (.i2l, 1) := by decide +kernel
theorem dX7_bySun_87 : decode cX7_bySun 87 = .ok (.goto 8, 3) := by decide +kernel
theorem dX7_bySun_90 : decode cX7_bySun 90 = .ok (.bipush 10, 2) := by decide +kernel
theorem dX7_bySun_92 : decode cX7_bySun 92 = .ok (.iload_n 1, 1) := by decide +kernel
theorem dX7_bySun_93 : decode cX7_bySun 93 = .ok (.isub, 1) := by decide +kernel
theorem dX7_bySun_94 : decode cX7_bySun 94 = .ok (.i2l, 1) := by decide +kernel
theorem dX7_bySun_95 : decode cX7_bySun 95 = .ok (.lmul, 1) := by decide +kernel
theorem dX7_bySun_96 : decode cX7_bySun 96 = .ok (.lstore 11, 2) := by decide +kernel
theorem dX7_bySun_98 : decode cX7_bySun 98 = .ok (.aload_n 0, 1) := by decide +kernel
theorem dX7_bySun_99 : decode cX7_bySun 99 = .ok (.sipush 220, 3) := by decide +kernel
theorem dX7_bySun_102 : decode cX7_bySun 102 = .ok (.iload 14, 2) := by decide +kernel
theorem dX7_bySun_104 : decode cX7_bySun 104 = .ok (.ifCond .eq 7, 3) := by decide +kernel
theorem dX7_bySun_107 : decode cX7_bySun 107 = .ok (.iconst 2, 1) := by decide +kernel
theorem dX7_bySun_108 : decode cX7_bySun 108 = .ok (.goto 4, 3) := by decide +kernel
theorem dX7_bySun_111 : decode cX7_bySun 111 = .ok (.iconst 1, 1) := by decide +kernel
theorem dX7_bySun_112 : decode cX7_bySun 112 = .ok (.invokevirtual 208, 3) := by decide +kernel
theorem dX7_bySun_115 : decode cX7_bySun 115 = .ok (.iinc 13 1, 3) := by decide +kernel
theorem dX7_bySun_118 : decode cX7_bySun 118 = .ok (.goto (-64), 3) := by decide +kernel
theorem dX7_bySun_121 : decode cX7_bySun 121 = .ok (.lload 6, 2) := by decide +kernel
theorem dX7_bySun_123 : decode cX7_bySun 123 = .ok (.lload 11, 2) := by decide +kernel
theorem dX7_bySun_125 : decode cX7_bySun 125 = .ok (.iload_n 2, 1) := by decide +kernel
theorem dX7_bySun_126 : decode cX7_bySun 126 = .ok (.bipush (-4), 2) := by decide +kernel
theorem dX7_bySun_128 : decode cX7_bySun 128 = .ok (.if_icmp .ne 13, 3) := by decide +kernel
theorem dX7_bySun_131 : decode cX7_bySun 131 = .ok (.aload_n 0, 1) := by decide +kernel
theorem dX7_bySun_132 : decode cX7_bySun 132 = .ok (.sipush 220, 3) := by decide +kernel
theorem dX7_bySun_135 : decode cX7_bySun 135 = .ok (.invokevirtual 173, 3) := by decide +kernel
theorem dX7_bySun_138 : decode cX7_bySun 138 = .ok (.goto 21, 3) := by decide +kernel
theorem dX7_bySun_141 : decode cX7_bySun 141 = .ok (.aload_n 0, 1) := by decide +kernel
theorem dX7_bySun_142 : decode cX7_bySun 142 = .ok (.sipush 220, 3) := by decide +kernel
theorem dX7_bySun_145 : decode cX7_bySun 145 = .ok (.iload_n 2, 1) := by decide +kernel
theorem dX7_bySun_146 : decode cX7_bySun 146 = .ok (.invokevirtual 185, 3) := by decide +kernel
theorem dX7_bySun_149 : decode cX7_bySun 149 = .ok (.iload 4, 2) := by decide +kernel
theorem dX7_bySun_151 : decode cX7_bySun 151 = .ok (.if_icmp .ne 7, 3) := by decide +kernel
theorem dX7_bySun_154 : decode cX7_bySun 154 = .ok (.iconst 1, 1) := by decide +kernel
theorem dX7_bySun_155 : decode cX7_bySun 155 = .ok (.goto 4, 3) := by decide +kernel
theorem dX7_bySun_158 : decode cX7_bySun 158 = .ok (.iconst 0, 1) := by decide +kernel
theorem dX7_bySun_159 : decode cX7_bySun 159 = .ok (.i2l, 1) := by decide +kernel
theorem dX7_bySun_160 : decode cX7_bySun 160 = .ok (.lmul, 1) := by decide +kernel
theorem dX7_bySun_161 : decode cX7_bySun 161 = .ok (.ladd, 1) := by decide +kernel
theorem dX7_bySun_162 : decode cX7_bySun 162 = .ok (.lstore 6, 2) := by decide +kernel
theorem dX7_bySun_164 : decode cX7_bySun 164 = .ok (.iinc 10 1, 3) := by decide +kernel
theorem dX7_bySun_167 : decode cX7_bySun 167 = .ok (.goto (-135), 3) := by decide +kernel
theorem dX7_bySun_170 : decode cX7_bySun 170 = .ok (.lload 6, 2) := by decide +kernel
theorem dX7_bySun_172 : decode cX7_bySun 172 = .ok (.lload 8, 2) := by decide +kernel
theorem dX7_bySun_174 : decode cX7_bySun 174 = .ok (.iload 5, 2) := by decide +kernel
theorem dX7_bySun_176 : decode cX7_bySun 176 = .ok (.invokestatic 241, 3) := by decide +kernel
theorem dX7_bySun_179 : decode cX7_bySun 179 = .ok (.lreturn, 1) := by decide +kernel
theorem dX7_luck_0 : decode cX7_luck 0 = .ok (.iload_n 1, 1) := by decide +kernel
theorem dX7_luck_1 : decode cX7_luck 1 = .ok (.i2l, 1) := by decide +kernel
theorem dX7_luck_2 : decode cX7_luck 2 = .ok (.lconst 0, 1) := by decide +kernel
theorem dX7_luck_3 : decode cX7_luck 3 = .ok (.ldc2_w 239, 3) := by decide +kernel
theorem dX7_luck_6 : decode cX7_luck 6 = .ok (.invokestatic 55, 3) := by decide +kernel
theorem dX7_luck_9 : decode cX7_luck 9 = .ok (.ifCond .eq 61, 3) := by decide +kernel
theorem dX7_luck_12 : decode cX7_luck 12 = .ok (.aload_n 0, 1) := by decide +kernel
theorem dX7_luck_13 : decode cX7_luck 13 = .ok (.iload_n 2, 1) := by decide +kernel
theorem dX7_luck_14 : decode cX7_luck 14 = .ok (.invokevirtual 182, 3) := by decide +kernel
theorem dX7_luck_17 : decode cX7_luck 17 = .ok (.ifCond .eq 53, 3) := by decide +kernel
theorem dX7_luck_20 : decode cX7_luck 20 = .ok (.iload_n 3, 1) := by decide +kernel
theorem dX7_luck_21 : decode cX7_luck 21 = .ok (.i2l, 1) := by decide +kernel
theorem dX7_luck_22 : decode cX7_luck 22 = .ok (.lconst 0, 1) := by decide +kernel
theorem dX7_luck_23 : decode cX7_luck 23 = .ok (.ldc2_w 245, 3) := by decide +kernel
theorem dX7_luck_26 : decode cX7_luck 26 = .ok (.invokestatic 55, 3) := by decide +kernel
theorem dX7_luck_29 : decode cX7_luck 29 = .ok (.ifCond .eq 41, 3) := by decide +kernel
theorem dX7_luck_32 : decode cX7_luck 32 = .ok (.iload 4, 2) := by decide +kernel
theorem dX7_luck_34 : decode cX7_luck 34 = .ok (.i2l, 1) := by decide +kernel
theorem dX7_luck_35 : decode cX7_luck 35 = .ok (.lconst 0, 1) := by decide +kernel
theorem dX7_luck_36 : decode cX7_luck 36 = .ok (.ldc2_w 188, 3) := by decide +kernel
theorem dX7_luck_39 : decode cX7_luck 39 = .ok (.invokestatic 55, 3) := by decide +kernel
theorem dX7_luck_42 : decode cX7_luck 42 = .ok (.ifCond .eq 28, 3) := by decide +kernel
theorem dX7_luck_45 : decode cX7_luck 45 = .ok (.iload 5, 2) := by decide +kernel
theorem dX7_luck_47 : decode cX7_luck 47 = .ok (.i2l, 1) := by decide +kernel
theorem dX7_luck_48 : decode cX7_luck 48 = .ok (.lconst 0, 1) := by decide +kernel
theorem dX7_luck_49 : decode cX7_luck 49 = .ok (.lconst 1, 1) := by decide +kernel
theorem dX7_luck_50 : decode cX7_luck 50 = .ok (.invokestatic 55, 3) := by decide +kernel
theorem dX7_luck_53 : decode cX7_luck 53 = .ok (.ifCond .eq 17, 3) := by decide +kernel
theorem dX7_luck_56 : decode cX7_luck 56 = .ok (.aload_n 0, 1) := by decide +kernel
theorem dX7_luck_57 : decode cX7_luck 57 = .ok (.iload_n 1, 1) := by decide +kernel
theorem dX7_luck_58 : decode cX7_luck 58 = .ok (.iload_n 2, 1) := by decide +kernel
theorem dX7_luck_59 : decode cX7_luck 59 = .ok (.iload_n 3, 1) := by decide +kernel
theorem dX7_luck_60 : decode cX7_luck 60 = .ok (.iload 4, 2) := by decide +kernel
theorem dX7_luck_62 : decode cX7_luck 62 = .ok (.iload 5, 2) := by decide +kernel
theorem dX7_luck_64 : decode cX7_luck 64 = .ok (.invokevirtual 247, 3) := by decide +kernel
theorem dX7_luck_67 : decode cX7_luck 67 = .ok (.goto 6, 3) := by decide +kernel
theorem dX7_luck_70 : decode cX7_luck 70 = .ok (.ldc2_w 251, 3) := by decide +kernel
theorem dX7_luck_73 : decode cX7_luck 73 = .ok (.lreturn, 1) := by decide +kernel
theorem dX7_mean_0 : decode cX7_mean 0 = .ok (.iload_n 1, 1) := by decide +kernel
theorem dX7_mean_1 : decode cX7_mean 1 = .ok (.i2l, 1) := by decide +kernel
theorem dX7_mean_2 : decode cX7_mean 2 = .ok (.lconst 0, 1) := by decide +kernel
theorem dX7_mean_3 : decode cX7_mean 3 = .ok (.ldc2_w 239, 3) := by decide +kernel
theorem dX7_mean_6 : decode cX7_mean 6 = .ok (.invokestatic 55, 3) := by decide +kernel
theorem dX7_mean_9 : decode cX7_mean 9 = .ok (.ifCond .eq 38, 3) := by decide +kernel
theorem dX7_mean_12 : decode cX7_mean 12 = .ok (.iload_n 2, 1) := by decide +kernel
theorem dX7_mean_13 : decode cX7_mean 13 = .ok (.i2l, 1) := by decide +kernel
theorem dX7_mean_14 : decode cX7_mean 14 = .ok (.lconst 0, 1) := by decide +kernel
theorem dX7_mean_15 : decode cX7_mean 15 = .ok (.ldc2_w 245, 3) := by decide +kernel
theorem dX7_mean_18 : decode cX7_mean 18 = .ok (.invokestatic 55, 3) := by decide +kernel
theorem dX7_mean_21 : decode cX7_mean 21 = .ok (.ifCond .eq 26, 3) := by decide +kernel
theorem dX7_mean_24 : decode cX7_mean 24 = .ok (.iload_n 3, 1) := by decide +kernel
theorem dX7_mean_25 : decode cX7_mean 25 = .ok (.i2l, 1) := by decide +kernel
theorem dX7_mean_26 : decode cX7_mean 26 = .ok (.lconst 0, 1) := by decide +kernel
theorem dX7_mean_27 : decode cX7_mean 27 = .ok (.lconst 1, 1) := by decide +kernel
theorem dX7_mean_28 : decode cX7_mean 28 = .ok (.invokestatic 55, 3) := by decide +kernel
theorem dX7_mean_31 : decode cX7_mean 31 = .ok (.ifCond .eq 16, 3) := by decide +kernel
theorem dX7_mean_34 : decode cX7_mean 34 = .ok (.aload_n 0, 1) := by decide +kernel
theorem dX7_mean_35 : decode cX7_mean 35 = .ok (.iload_n 1, 1) := by decide +kernel
theorem dX7_mean_36 : decode cX7_mean 36 = .ok (.bipush (-4), 2) := by decide +kernel
theorem dX7_mean_38 : decode cX7_mean 38 = .ok (.iload_n 2, 1) := by decide +kernel
theorem dX7_mean_39 : decode cX7_mean 39 = .ok (.iconst 0, 1) := by decide +kernel
theorem dX7_mean_40 : decode cX7_mean 40 = .ok (.iload_n 3, 1) := by decide +kernel
theorem dX7_mean_41 : decode cX7_mean 41 = .ok (.invokevirtual 247, 3) := by decide +kernel
theorem dX7_mean_44 : decode cX7_mean 44 = .ok (.goto 6, 3) := by decide +kernel
theorem dX7_mean_47 : decode cX7_mean 47 = .ok (.ldc2_w 251, 3) := by decide +kernel
theorem dX7_mean_50 : decode cX7_mean 50 = .ok (.lreturn, 1) := by decide +kernel
theorem dX7_see_0 : decode cX7_see 0 = .ok (.iload_n 1, 1) := by decide +kernel
theorem dX7_see_1 : decode cX7_see 1 = .ok (.i2l, 1) := by decide +kernel
theorem dX7_see_2 : decode cX7_see 2 = .ok (.lconst 0, 1) := by decide +kernel
theorem dX7_see_3 : decode cX7_see 3 = .ok (.ldc2_w 253, 3) := by decide +kernel
theorem dX7_see_6 : decode cX7_see 6 = .ok (.invokestatic 55, 3) := by decide +kernel
theorem dX7_see_9 : decode cX7_see 9 = .ok (.ifCond .eq 23, 3) := by decide +kernel
theorem dX7_see_12 : decode cX7_see 12 = .ok (.aload_n 0, 1) := by decide +kernel
theorem dX7_see_13 : decode cX7_see 13 = .ok (.iload_n 2, 1) := by decide +kernel
theorem dX7_see_14 : decode cX7_see 14 = .ok (.invokevirtual 182, 3) := by decide +kernel
theorem dX7_see_17 : decode cX7_see 17 = .ok (.ifCond .eq 15, 3) := by decide +kernel
theorem dX7_see_20 : decode cX7_see 20 = .ok (.iload_n 3, 1) := by decide +kernel
theorem dX7_see_21 : decode cX7_see 21 = .ok (.i2l, 1) := by decide +kernel
theorem dX7_see_22 : decode cX7_see 22 = .ok (.lconst 0, 1) := by decide +kernel
theorem dX7_see_23 : decode cX7_see 23 = .ok (.ldc2_w 188, 3) := by decide +kernel
theorem dX7_see_26 : decode cX7_see 26 = .ok (.invokestatic 55, 3) := by decide +kernel
theorem dX7_see_29 : decode cX7_see 29 = .ok (.ifCond .ne 5, 3) := by decide +kernel
theorem dX7_see_32 : decode cX7_see 32 = .ok (.iconst (-1), 1) := by decide +kernel
theorem dX7_see_33 : decode cX7_see 33 = .ok (.ireturn, 1) := by decide +kernel
theorem dX7_see_34 : decode cX7_see 34 = .ok (.aload_n 0, 1) := by decide +kernel
theorem dX7_see_35 : decode cX7_see 35 = .ok (.getfield 148, 3) := by decide +kernel
theorem dX7_see_38 : decode cX7_see 38 = .ok (.bipush 6, 2) := by decide +kernel
theorem dX7_see_40 : decode cX7_see 40 = .ok (.if_icmp .ne 6, 3) := by decide +kernel
theorem dX7_see_43 : decode cX7_see 43 = .ok (.bipush (-3), 2) := by decide +kernel
theorem dX7_see_45 : decode cX7_see 45 = .ok (.ireturn, 1) := by decide +kernel
theorem dX7_see_46 : decode cX7_see 46 = .ok (.aload_n 0, 1) := by decide +kernel
theorem dX7_see_47 : decode cX7_see 47 = .ok (.getfield 34, 3) := by decide +kernel
theorem dX7_see_50 : decode cX7_see 50 = .ok (.iconst 3, 1) := by decide +kernel
theorem dX7_see_51 : decode cX7_see 51 = .ok (.aload_n 0, 1) := by decide +kernel
theorem dX7_see_52 : decode cX7_see 52 = .ok (.getfield 148, 3) := by decide +kernel
theorem dX7_see_55 : decode cX7_see 55 = .ok (.imul, 1) := by decide +kernel
theorem dX7_see_56 : decode cX7_see 56 = .ok (.iload_n 1, 1) := by decide +kernel
theorem dX7_see_57 : decode cX7_see 57 = .ok (.iastore, 1) := by decide +kernel
theorem dX7_see_58 : decode cX7_see 58 = .ok (.aload_n 0, 1) := by decide +kernel
theorem dX7_see_59 : decode cX7_see 59 = .ok (.getfield 34, 3) := by decide +kernel
theorem dX7_see_62 : decode cX7_see 62 = .ok (.iconst 3, 1) := by decide +kernel
theorem dX7_see_63 : decode cX7_see 63 = .ok (.aload_n 0, 1) := by decide +kernel
theorem dX7_see_64 : decode cX7_see 64 = .ok (.getfield 148, 3) := by decide +kernel
theorem dX7_see_67 : decode cX7_see 67 = .ok (.imul, 1) := by decide +kernel
theorem dX7_see_68 : decode cX7_see 68 = .ok (.iconst 1, 1) := by decide +kernel
theorem dX7_see_69 : decode cX7_see 69 = .ok (.iadd, 1) := by decide +kernel
theorem dX7_see_70 : decode cX7_see 70 = .ok (.iload_n 2, 1) := by decide +kernel
theorem dX7_see_71 : decode cX7_see 71 = .ok (.iastore, 1) := by decide +kernel
theorem dX7_see_72 : decode cX7_see 72 = .ok (.aload_n 0, 1) := by decide +kernel
theorem dX7_see_73 : decode cX7_see 73 = .ok (.getfield 34, 3) := by decide +kernel
theorem dX7_see_76 : decode cX7_see 76 = .ok (.iconst 3, 1) := by decide +kernel
theorem dX7_see_77 : decode cX7_see 77 = .ok (.aload_n 0, 1) := by decide +kernel
theorem dX7_see_78 : decode cX7_see 78 = .ok (.getfield 148, 3) := by decide +kernel
theorem dX7_see_81 : decode cX7_see 81 = .ok (.imul, 1) := by decide +kernel
theorem dX7_see_82 : decode cX7_see 82 = .ok (.iconst 2, 1) := by decide +kernel
theorem dX7_see_83 : decode cX7_see 83 = .ok (.iadd, 1) := by decide +kernel
theorem dX7_see_84 : decode cX7_see 84 = .ok (.iload_n 3, 1) := by decide +kernel
theorem dX7_see_85 : decode cX7_see 85 = .ok (.iastore, 1) := by decide +kernel
theorem dX7_see_86 : decode cX7_see 86 = .ok (.aload_n 0, 1) := by decide +kernel
theorem dX7_see_87 : decode cX7_see 87 = .ok (.dup, 1) := by decide +kernel
theorem dX7_see_88 : decode cX7_see 88 = .ok (.getfield 148, 3) := by decide +kernel
theorem dX7_see_91 : decode cX7_see 91 = .ok (.iconst 1, 1) := by decide +kernel
theorem dX7_see_92 : decode cX7_see 92 = .ok (.iadd, 1) := by decide +kernel
theorem dX7_see_93 : decode cX7_see 93 = .ok (.putfield 148, 3) := by decide +kernel
theorem dX7_see_96 : decode cX7_see 96 = .ok (.aload_n 0, 1) := by decide +kernel
theorem dX7_see_97 : decode cX7_see 97 = .ok (.getfield 148, 3) := by decide +kernel
theorem dX7_see_100 : decode cX7_see 100 = .ok (.ireturn, 1) := by decide +kernel
theorem dX7_forget_0 : decode cX7_forget 0 = .ok (.iload_n 1, 1) := by decide +kernel
theorem dX7_forget_1 : decode cX7_forget 1 = .ok (.i2l, 1) := by decide +kernel
theorem dX7_forget_2 : decode cX7_forget 2 = .ok (.lconst 0, 1) := by decide +kernel
theorem dX7_forget_3 : decode cX7_forget 3 = .ok (.aload_n 0, 1) := by decide +kernel
theorem dX7_forget_4 : decode cX7_forget 4 = .ok (.getfield 148, 3) := by decide +kernel
theorem dX7_forget_7 : decode cX7_forget 7 = .ok (.i2l, 1) := by decide +kernel
theorem dX7_forget_8 : decode cX7_forget 8 = .ok (.invokestatic 55, 3) := by decide +kernel
theorem dX7_forget_11 : decode cX7_forget 11 = .ok (.ifCond .ne 5, 3) := by decide +kernel
theorem dX7_forget_14 : decode cX7_forget 14 = .ok (.iconst (-1), 1) := by decide +kernel
theorem dX7_forget_15 : decode cX7_forget 15 = .ok (.ireturn, 1) := by decide +kernel
theorem dX7_forget_16 : decode cX7_forget 16 = .ok (.aload_n 0, 1) := by decide +kernel
theorem dX7_forget_17 : decode cX7_forget 17 = .ok (.getfield 148, 3) := by decide +kernel
theorem dX7_forget_20 : decode cX7_forget 20 = .ok (.istore_n 2, 1) := by decide +kernel
theorem dX7_forget_21 : decode cX7_forget 21 = .ok (.aload_n 0, 1) := by decide +kernel
theorem dX7_forget_22 : decode cX7_forget 22 = .ok (.iload_n 1, 1) := by decide +kernel
theorem dX7_forget_23 : decode cX7_forget 23 = .ok (.putfield 148, 3) := by decide +kernel
theorem dX7_forget_26 : decode cX7_forget 26 = .ok (.iload_n 2, 1) := by decide +kernel
theorem dX7_forget_27 : decode cX7_forget 27 = .ok (.ireturn, 1) := by decide +kernel
theorem dX7_isAsSeen_0 : decode cX7_isAsSeen 0 = .ok (.aload_n 0, 1) := by decide +kernel
theorem dX7_isAsSeen_1 : decode cX7_isAsSeen 1 = .ok (.iconst 0, 1) := by decide +kernel
theorem dX7_isAsSeen_2 : decode cX7_isAsSeen 2 = .ok (.sipush 220, 3) := by decide +kernel
theorem dX7_isAsSeen_5 : decode cX7_isAsSeen 5 = .ok (.invokevirtual 212, 3) := by decide +kernel
theorem dX7_isAsSeen_8 : decode cX7_isAsSeen 8 = .ok (.iconst 1, 1) := by decide +kernel
theorem dX7_isAsSeen_9 : decode cX7_isAsSeen 9 = .ok (.istore_n 2, 1) := by decide +kernel
theorem dX7_isAsSeen_10 : decode cX7_isAsSeen 10 = .ok (.iconst 0, 1) := by decide +kernel
theorem dX7_isAsSeen_11 : decode cX7_isAsSeen 11 = .ok (.istore_n 3, 1) := by decide +kernel
theorem dX7_isAsSeen_12 : decode cX7_isAsSeen 12 = .ok (.iload_n 3, 1) := by decide +kernel
theorem dX7_isAsSeen_13 : decode cX7_isAsSeen 13 = .ok (.bipush 20, 2) := by decide +kernel
theorem dX7_isAsSeen_15 : decode cX7_isAsSeen 15 = .ok (.if_icmp .gt 133, 3) := by decide +kernel
theorem dX7_isAsSeen_18 : decode cX7_isAsSeen 18 = .ok (.iconst 0, 1) := by decide +kernel
theorem dX7_isAsSeen_19 : decode cX7_isAsSeen 19 = .ok (.istore 4, 2) := by decide +kernel
theorem dX7_isAsSeen_21 : decode cX7_isAsSeen 21 = .ok (.iload 4, 2) := by decide +kernel
theorem dX7_isAsSeen_23 : decode cX7_isAsSeen 23 = .ok (.aload_n 0, 1) := by decide +kernel
theorem dX7_isAsSeen_24 : decode cX7_isAsSeen 24 = .ok (.getfield 145, 3) := by decide +kernel
theorem dX7_isAsSeen_27 : decode cX7_isAsSeen 27 = .ok (.if_icmp .ge 34, 3) := by decide +kernel
theorem dX7_isAsSeen_30 : decode cX7_isAsSeen 30 = .ok (.aload_n 0, 1) := by decide +kernel
theorem dX7_isAsSeen_31 : decode cX7_isAsSeen 31 = .ok (.getfield 37, 3) := by decide +kernel
theorem dX7_isAsSeen_34 : decode cX7_isAsSeen 34 = .ok (.bipush 84, 2) := by decide +kernel
theorem dX7_isAsSeen_36 : decode cX7_isAsSeen 36 = .ok (.iload_n 1, 1) := by decide +kernel
theorem dX7_isAsSeen_37 : decode cX7_isAsSeen 37 = .ok (.imul, 1) := by decide +kernel
theorem dX7_isAsSeen_38 : decode cX7_isAsSeen 38 = .ok (.iconst 4, 1) := by decide +kernel
theorem dX7_isAsSeen_39 : decode cX7_isAsSeen 39 = .ok (.iload_n 3, 1) := by decide +kernel
theorem dX7_isAsSeen_40 : decode cX7_isAsSeen 40 = .ok (.imul, 1) := by decide +kernel
theorem dX7_isAsSeen_41 : decode cX7_isAsSeen 41 = .ok (.iadd, 1) := by decide +kernel
theorem dX7_isAsSeen_42 : decode cX7_isAsSeen 42 = .ok (.iload 4, 2) := by decide +kernel
theorem dX7_isAsSeen_44 : decode cX7_isAsSeen 44 = .ok (.iadd, 1) := by decide +kernel
theorem dX7_isAsSeen_45 : decode cX7_isAsSeen 45 = .ok (.aload_n 0, 1) := by decide +kernel
theorem dX7_isAsSeen_46 : decode cX7_isAsSeen 46 = .ok (.sipush 220, 3) := by decide +kernel
theorem dX7_isAsSeen_49 : decode cX7_isAsSeen 49 = .ok (.iload 4, 2) := by decide +kernel
theorem dX7_isAsSeen_51 : decode cX7_isAsSeen 51 = .ok (.invokevirtual 185, 3) := by decide +kernel
theorem dX7_isAsSeen_54 : decode cX7_isAsSeen 54 = .ok (.iastore, 1) := by decide +kernel
theorem dX7_isAsSeen_55 : decode cX7_isAsSeen 55 = .ok (.iinc 4 1, 3) := by decide +kernel
theorem dX7_isAsSeen_58 : decode cX7_isAsSeen 58 = .ok (.goto (-37), 3) := by decide +kernel
theorem dX7_isAsSeen_61 : decode cX7_isAsSeen 61 = .ok (.iconst 0, 1) := by decide +kernel
theorem dX7_isAsSeen_62 : decode cX7_isAsSeen 62 = .ok (.istore 4, 2) := by decide +kernel
theorem dX7_isAsSeen_64 : decode cX7_isAsSeen 64 = .ok (.iload 4, 2) := by decide +kernel
theorem dX7_isAsSeen_66 : decode cX7_isAsSeen 66 = .ok (.aload_n 0, 1) := by decide +kernel
theorem dX7_isAsSeen_67 : decode cX7_isAsSeen 67 = .ok (.getfield 148, 3) := by decide +kernel
theorem dX7_isAsSeen_70 : decode cX7_isAsSeen 70 = .ok (.if_icmp .ge 64, 3) := by decide +kernel
theorem dX7_isAsSeen_73 : decode cX7_isAsSeen 73 = .ok (.iload_n 2, 1) := by decide +kernel
theorem dX7_isAsSeen_74 : decode cX7_isAsSeen 74 = .ok (.ifCond .eq 52, 3) := by decide +kernel
theorem dX7_isAsSeen_77 : decode cX7_isAsSeen 77 = .ok (.aload_n 0, 1) := by decide +kernel
theorem dX7_isAsSeen_78 : decode cX7_isAsSeen 78 = .ok (.getfield 34, 3) := by decide +kernel
theorem dX7_isAsSeen_81 : decode cX7_isAsSeen 81 = .ok (.iconst 3, 1) := by decide +kernel
theorem dX7_isAsSeen_82 : decode cX7_isAsSeen 82 = .ok (.iload 4, 2) := by decide +kernel
theorem dX7_isAsSeen_84 : decode cX7_isAsSeen 84 = .ok (.imul, 1) := by decide +kernel
theorem dX7_isAsSeen_85 : decode cX7_isAsSeen 85 = .ok (.iaload, 1) := by decide +kernel
theorem dX7_isAsSeen_86 : decode cX7_isAsSeen 86 = .ok (.iload_n 3, 1) := by decide +kernel
theorem dX7_isAsSeen_87 : decode cX7_isAsSeen 87 = .ok (.if_icmp .ne 35, 3) := by decide +kernel
theorem dX7_isAsSeen_90 : decode cX7_isAsSeen 90 = .ok (.aload_n 0, 1) := by decide +kernel
theorem dX7_isAsSeen_91 : decode cX7_isAsSeen 91 = .ok (.sipush 220, 3) := by decide +kernel
theorem dX7_isAsSeen_94 : decode cX7_isAsSeen 94 = .ok (.aload_n 0, 1) := by decide +kernel
theorem dX7_isAsSeen_95 : decode cX7_isAsSeen 95 = .ok (.getfield 34, 3) := by decide +kernel
theorem dX7_isAsSeen_98 : decode cX7_isAsSeen 98 = .ok (.iconst 3, 1) := by decide +kernel
theorem dX7_isAsSeen_99 : decode cX7_isAsSeen 99 = .ok (.iload 4, 2) := by decide +kernel
theorem dX7_isAsSeen_101 : decode cX7_isAsSeen 101 = .ok (.imul, 1) := by decide +kernel
theorem dX7_isAsSeen_102 : decode cX7_isAsSeen 102 = .ok (.iconst 1, 1) := by decide +kernel
theorem dX7_isAsSeen_103 : decode cX7_isAsSeen 103 = .ok (.iadd, 1) := by decide +kernel
theorem dX7_isAsSeen_104 : decode cX7_isAsSeen 104 = .ok (.iaload, 1) := by decide +kernel
theorem dX7_isAsSeen_105 : decode cX7_isAsSeen 105 = .ok (.invokevirtual 185, 3) := by decide +kernel
theorem dX7_isAsSeen_108 : decode cX7_isAsSeen 108 = .ok (.aload_n 0, 1) := by decide +kernel
theorem dX7_isAsSeen_109 : decode cX7_isAsSeen 109 = .ok (.getfield 34, 3) := by decide +kernel
theorem dX7_isAsSeen_112 : decode cX7_isAsSeen 112 = .ok (.iconst 3, 1) := by decide +kernel
theorem dX7_isAsSeen_113 : decode cX7_isAsSeen 113 = .ok (.iload 4, 2) := by decide +kernel
theorem dX7_isAsSeen_115 : decode cX7_isAsSeen 115 = .ok (.imul, 1) := by decide +kernel
theorem dX7_isAsSeen_116 : decode cX7_isAsSeen 116 = .ok (.iconst 2, 1) := by decide +kernel
theorem dX7_isAsSeen_117 : decode cX7_isAsSeen 117 = .ok (.iadd, 1) := by decide +kernel
theorem dX7_isAsSeen_118 : decode cX7_isAsSeen 118 = .ok (.iaload, 1) := by decide +kernel
theorem dX7_isAsSeen_119 : decode cX7_isAsSeen 119 = .ok (.if_icmp .ne 7, 3) := by decide +kernel
theorem dX7_isAsSeen_122 : decode cX7_isAsSeen 122 = .ok (.iconst 1, 1) := by decide +kernel
theorem dX7_isAsSeen_123 : decode cX7_isAsSeen 123 = .ok (.goto 4, 3) := by decide +kernel
theorem dX7_isAsSeen_126 : decode cX7_isAsSeen 126 = .ok (.iconst 0, 1) := by decide +kernel
theorem dX7_isAsSeen_127 : decode cX7_isAsSeen 127 = .ok (.istore_n 2, 1) := by decide +kernel
theorem dX7_isAsSeen_128 : decode cX7_isAsSeen 128 = .ok (.iinc 4 1, 3) := by decide +kernel
theorem dX7_isAsSeen_131 : decode cX7_isAsSeen 131 = .ok (.goto (-67), 3) := by decide +kernel
theorem dX7_isAsSeen_134 : decode cX7_isAsSeen 134 = .ok (.aload_n 0, 1) := by decide +kernel
theorem dX7_isAsSeen_135 : decode cX7_isAsSeen 135 = .ok (.sipush 220, 3) := by decide +kernel
theorem dX7_isAsSeen_138 : decode cX7_isAsSeen 138 = .ok (.iconst 1, 1) := by decide +kernel
theorem dX7_isAsSeen_139 : decode cX7_isAsSeen 139 = .ok (.invokevirtual 208, 3) := by decide +kernel
theorem dX7_isAsSeen_142 : decode cX7_isAsSeen 142 = .ok (.iinc 3 1, 3) := by decide +kernel
theorem dX7_isAsSeen_145 : decode cX7_isAsSeen 145 = .ok (.goto (-133), 3) := by decide +kernel
theorem dX7_isAsSeen_148 : decode cX7_isAsSeen 148 = .ok (.iload_n 2, 1) := by decide +kernel
theorem dX7_isAsSeen_149 : decode cX7_isAsSeen 149 = .ok (.ireturn, 1) := by decide +kernel
theorem dX7_kindsOf_0 : decode cX7_kindsOf 0 = .ok (.aload_n 0, 1) := by decide +kernel
theorem dX7_kindsOf_1 : decode cX7_kindsOf 1 = .ok (.getfield 7, 3) := by decide +kernel
theorem dX7_kindsOf_4 : decode cX7_kindsOf 4 = .ok (.iload_n 1, 1) := by decide +kernel
theorem dX7_kindsOf_5 : decode cX7_kindsOf 5 = .ok (.iaload, 1) := by decide +kernel
theorem dX7_kindsOf_6 : decode cX7_kindsOf 6 = .ok (.istore_n 2, 1) := by decide +kernel
theorem dX7_kindsOf_7 : decode cX7_kindsOf 7 = .ok (.iconst 0, 1) := by decide +kernel
theorem dX7_kindsOf_8 : decode cX7_kindsOf 8 = .ok (.istore_n 3, 1) := by decide +kernel
theorem dX7_kindsOf_9 : decode cX7_kindsOf 9 = .ok (.iconst 0, 1) := by decide +kernel
theorem dX7_kindsOf_10 : decode cX7_kindsOf 10 = .ok (.istore 4, 2) := by decide +kernel
theorem dX7_kindsOf_12 : decode cX7_kindsOf 12 = .ok (.iload 4, 2) := by decide +kernel
theorem dX7_kindsOf_14 : decode cX7_kindsOf 14 = .ok (.iconst 4, 1) := by decide +kernel
theorem dX7_kindsOf_15 : decode cX7_kindsOf 15 = .ok (.if_icmp .ge 37, 3) := by decide +kernel
theorem dX7_kindsOf_18 : decode cX7_kindsOf 18 = .ok (.aload_n 0, 1) := by decide +kernel
theorem dX7_kindsOf_19 : decode cX7_kindsOf 19 = .ok (.getfield 7, 3) := by decide +kernel
theorem dX7_kindsOf_22 : decode cX7_kindsOf 22 = .ok (.iload_n 1, 1) := by decide +kernel
theorem dX7_kindsOf_23 : decode cX7_kindsOf 23 = .ok (.iload 4, 2) := by decide +kernel
theorem dX7_kindsOf_25 : decode cX7_kindsOf 25 = .ok (.iastore, 1) := by decide +kernel
theorem dX7_kindsOf_26 : decode cX7_kindsOf 26 = .ok (.iload_n 3, 1) := by decide +kernel
theorem dX7_kindsOf_27 : decode cX7_kindsOf 27 = .ok (.aload_n 0, 1) := by decide +kernel
theorem dX7_kindsOf_28 : decode cX7_kindsOf 28 = .ok (.iload 4, 2) := by decide +kernel
theorem dX7_kindsOf_30 : decode cX7_kindsOf 30 = .ok (.invokevirtual 255, 3) := by decide +kernel
theorem dX7_kindsOf_33 : decode cX7_kindsOf 33 = .ok (.ifCond .eq 10, 3) := by decide +kernel
theorem dX7_kindsOf_36 : decode cX7_kindsOf 36 = .ok (.iconst 1, 1) := by decide +kernel
theorem dX7_kindsOf_37 : decode cX7_kindsOf 37 = .ok (.iload 4, 2) := by decide +kernel
theorem dX7_kindsOf_39 : decode cX7_kindsOf 39 = .ok (.ishl, 1) := by decide +kernel
theorem dX7_kindsOf_40 : decode cX7_kindsOf 40 = .ok (.goto 4, 3) := by decide +kernel
theorem dX7_kindsOf_43 : decode cX7_kindsOf 43 = .ok (.iconst 0, 1) := by decide +kernel
theorem dX7_kindsOf_44 : decode cX7_kindsOf 44 = .ok (.ior, 1) := by decide +kernel
theorem dX7_kindsOf_45 : decode cX7_kindsOf 45 = .ok (.istore_n 3, 1) := by decide +kernel
theorem dX7_kindsOf_46 : decode cX7_kindsOf 46 = .ok (.iinc 4 1, 3) := by decide +kernel
theorem dX7_kindsOf_49 : decode cX7_kindsOf 49 = .ok (.goto (-37), 3) := by decide +kernel
theorem dX7_kindsOf_52 : decode cX7_kindsOf 52 = .ok (.aload_n 0, 1) := by decide +kernel
theorem dX7_kindsOf_53 : decode cX7_kindsOf 53 = .ok (.getfield 7, 3) := by decide +kernel
theorem dX7_kindsOf_56 : decode cX7_kindsOf 56 = .ok (.iload_n 1, 1) := by decide +kernel
theorem dX7_kindsOf_57 : decode cX7_kindsOf 57 = .ok (.iload_n 2, 1) := by decide +kernel
theorem dX7_kindsOf_58 : decode cX7_kindsOf 58 = .ok (.iastore, 1) := by decide +kernel
theorem dX7_kindsOf_59 : decode cX7_kindsOf 59 = .ok (.iload_n 3, 1) := by decide +kernel
theorem dX7_kindsOf_60 : decode cX7_kindsOf 60 = .ok (.ireturn, 1) := by decide +kernel
theorem dX7_kinds_0 : decode cX7_kinds 0 = .ok (.aload_n 0, 1) := by decide +kernel
theorem dX7_kinds_1 : decode cX7_kinds 1 = .ok (.iload_n 1, 1) := by decide +kernel
theorem dX7_kinds_2 : decode cX7_kinds 2 = .ok (.invokevirtual 176, 3) := by decide +kernel
theorem dX7_kinds_5 : decode cX7_kinds 5 = .ok (.ifCond .eq 11, 3) := by decide +kernel
theorem dX7_kinds_8 : decode cX7_kinds 8 = .ok (.aload_n 0, 1) := by decide +kernel
theorem dX7_kinds_9 : decode cX7_kinds 9 = .ok (.iload_n 1, 1) := by decide +kernel
theorem dX7_kinds_10 : decode cX7_kinds 10 = .ok (.invokevirtual 258, 3) := by decide +kernel
theorem dX7_kinds_13 : decode cX7_kinds 13 = .ok (.goto 4, 3) := by decide +kernel
theorem dX7_kinds_16 : decode cX7_kinds 16 = .ok (.iconst (-1), 1) := by decide +kernel
theorem dX7_kinds_17 : decode cX7_kinds 17 = .ok (.ireturn, 1) := by decide +kernel
theorem dX7_drops_0 : decode cX7_drops 0 = .ok (.aload_n 0, 1) := by decide +kernel
theorem dX7_drops_1 : decode cX7_drops 1 = .ok (.iload_n 1, 1) := by decide +kernel
theorem dX7_drops_2 : decode cX7_drops 2 = .ok (.invokevirtual 182, 3) := by decide +kernel
theorem dX7_drops_5 : decode cX7_drops 5 = .ok (.ifCond .eq 11, 3) := by decide +kernel
theorem dX7_drops_8 : decode cX7_drops 8 = .ok (.aload_n 0, 1) := by decide +kernel
theorem dX7_drops_9 : decode cX7_drops 9 = .ok (.iload_n 2, 1) := by decide +kernel
theorem dX7_drops_10 : decode cX7_drops 10 = .ok (.invokevirtual 176, 3) := by decide +kernel
theorem dX7_drops_13 : decode cX7_drops 13 = .ok (.ifCond .ne 5, 3) := by decide +kernel
theorem dX7_drops_16 : decode cX7_drops 16 = .ok (.iconst (-1), 1) := by decide +kernel
theorem dX7_drops_17 : decode cX7_drops 17 = .ok (.ireturn, 1) := by decide +kernel
theorem dX7_drops_18 : decode cX7_drops 18 = .ok (.bipush 33, 2) := by decide +kernel
theorem dX7_drops_20 : decode cX7_drops 20 = .ok (.iconst 5, 1) := by decide +kernel
theorem dX7_drops_21 : decode cX7_drops 21 = .ok (.iload_n 1, 1) := by decide +kernel
theorem dX7_drops_22 : decode cX7_drops 22 = .ok (.imul, 1) := by decide +kernel
theorem dX7_drops_23 : decode cX7_drops 23 = .ok (.iadd, 1) := by decide +kernel
theorem dX7_drops_24 : decode cX7_drops 24 = .ok (.iload_n 2, 1) := by decide +kernel
theorem dX7_drops_25 : decode cX7_drops 25 = .ok (.iadd, 1) := by decide +kernel
theorem dX7_drops_26 : decode cX7_drops 26 = .ok (.istore_n 3, 1) := by decide +kernel
theorem dX7_drops_27 : decode cX7_drops 27 = .ok (.aload_n 0, 1) := by decide +kernel
theorem dX7_drops_28 : decode cX7_drops 28 = .ok (.getfield 7, 3) := by decide +kernel
theorem dX7_drops_31 : decode cX7_drops 31 = .ok (.iload_n 3, 1) := by decide +kernel
theorem dX7_drops_32 : decode cX7_drops 32 = .ok (.iaload, 1) := by decide +kernel
theorem dX7_drops_33 : decode cX7_drops 33 = .ok (.istore 4, 2) := by decide +kernel
theorem dX7_drops_35 : decode cX7_drops 35 = .ok (.iconst 0, 1) := by decide +kernel
theorem dX7_drops_36 : decode cX7_drops 36 = .ok (.istore 5, 2) := by decide +kernel
theorem dX7_drops_38 : decode cX7_drops 38 = .ok (.iconst 0, 1) := by decide +kernel
theorem dX7_drops_39 : decode cX7_drops 39 = .ok (.istore 6, 2) := by decide +kernel
theorem dX7_drops_41 : decode cX7_drops 41 = .ok (.iload 6, 2) := by decide +kernel
theorem dX7_drops_43 : decode cX7_drops 43 = .ok (.bipush 30, 2) := by decide +kernel
theorem dX7_drops_45 : decode cX7_drops 45 = .ok (.if_icmp .gt 38, 3) := by decide +kernel
theorem dX7_drops_48 : decode cX7_drops 48 = .ok (.aload_n 0, 1) := by decide +kernel
theorem dX7_drops_49 : decode cX7_drops 49 = .ok (.getfield 7, 3) := by decide +kernel
theorem dX7_drops_52 : decode cX7_drops 52 = .ok (.iload_n 3, 1) := by decide +kernel
theorem dX7_drops_53 : decode cX7_drops 53 = .ok (.iload 6, 2) := by decide +kernel
theorem dX7_drops_55 : decode cX7_drops 55 = .ok (.iastore, 1) := by decide +kernel
theorem dX7_drops_56 : decode cX7_drops 56 = .ok (.iload 5, 2) := by decide +kernel
theorem dX7_drops_58 : decode cX7_drops 58 = .ok (.aload_n 0, 1) := by decide +kernel
theorem dX7_drops_59 : decode cX7_drops 59 = .ok (.iconst 0, 1) := by decide +kernel
theorem dX7_drops_60 : decode cX7_drops 60 = .ok (.invokevirtual 255, 3) := by decide +kernel
theorem dX7_drops_63 : decode cX7_drops 63 = .ok (.ifCond .eq 10, 3) := by decide +kernel
theorem dX7_drops_66 : decode cX7_drops 66 = .ok (.iconst 1, 1) := by decide +kernel
theorem dX7_drops_67 : decode cX7_drops 67 = .ok (.iload 6, 2) := by decide +kernel
theorem dX7_drops_69 : decode cX7_drops 69 = .ok (.ishl, 1) := by decide +kernel
theorem dX7_drops_70 : decode cX7_drops 70 = .ok (.goto 4, 3) := by decide +kernel
theorem dX7_drops_73 : decode cX7_drops 73 = .ok (.iconst 0, 1) := by decide +kernel
theorem dX7_drops_74 : decode cX7_drops 74 = .ok (.ior, 1) := by decide +kernel
theorem dX7_drops_75 : decode cX7_drops 75 = .ok (.istore 5, 2) := by decide +kernel
theorem dX7_drops_77 : decode cX7_drops 77 = .ok (.iinc 6 1, 3) := by decide +kernel
theorem dX7_drops_80 : decode cX7_drops 80 = .ok (.goto (-39), 3) := by decide +kernel
theorem dX7_drops_83 : decode cX7_drops 83 = .ok (.aload_n 0, 1) := by decide +kernel
theorem dX7_drops_84 : decode cX7_drops 84 = .ok (.getfield 7, 3) := by decide +kernel
theorem dX7_drops_87 : decode cX7_drops 87 = .ok (.iload_n 3, 1) := by decide +kernel
theorem dX7_drops_88 : decode cX7_drops 88 = .ok (.iload 4, 2) := by decide +kernel
theorem dX7_drops_90 : decode cX7_drops 90 = .ok (.iastore, 1) := by decide +kernel
theorem dX7_drops_91 : decode cX7_drops 91 = .ok (.iload 5, 2) := by decide +kernel
theorem dX7_drops_93 : decode cX7_drops 93 = .ok (.ireturn, 1) := by decide +kernel
theorem dX7_ask_0 : decode cX7_ask 0 = .ok (.aload_n 0, 1) := by decide +kernel
theorem dX7_ask_1 : decode cX7_ask 1 = .ok (.iload_n 1, 1) := by decide +kernel
theorem dX7_ask_2 : decode cX7_ask 2 = .ok (.invokevirtual 176, 3) := by decide +kernel
theorem dX7_ask_5 : decode cX7_ask 5 = .ok (.ifCond .eq 13, 3) := by decide +kernel
theorem dX7_ask_8 : decode cX7_ask 8 = .ok (.iload_n 2, 1) := by decide +kernel
theorem dX7_ask_9 : decode cX7_ask 9 = .ok (.i2l, 1) := by decide +kernel
theorem dX7_ask_10 : decode cX7_ask 10 = .ok (.lconst 0, 1) := by decide +kernel
theorem dX7_ask_11 : decode cX7_ask 11 = .ok (.lconst 1, 1) := by decide +kernel
theorem dX7_ask_12 : decode cX7_ask 12 = .ok (.invokestatic 55, 3) := by decide +kernel
theorem dX7_ask_15 : decode cX7_ask 15 = .ok (.ifCond .ne 5, 3) := by decide +kernel
theorem dX7_ask_18 : decode cX7_ask 18 = .ok (.iconst (-1), 1) := by decide +kernel
theorem dX7_ask_19 : decode cX7_ask 19 = .ok (.ireturn, 1) := by decide +kernel
theorem dX7_ask_20 : decode cX7_ask 20 = .ok (.aload_n 0, 1) := by decide +kernel
theorem dX7_ask_21 : decode cX7_ask 21 = .ok (.iload_n 1, 1) := by decide +kernel
theorem dX7_ask_22 : decode cX7_ask 22 = .ok (.invokevirtual 258, 3) := by decide +kernel
theorem dX7_ask_25 : decode cX7_ask 25 = .ok (.istore_n 3, 1) := by decide +kernel
theorem dX7_ask_26 : decode cX7_ask 26 = .ok (.iconst 0, 1) := by decide +kernel
theorem dX7_ask_27 : decode cX7_ask 27 = .ok (.istore 4, 2) := by decide +kernel
theorem dX7_ask_29 : decode cX7_ask 29 = .ok (.iconst 0, 1) := by decide +kernel
theorem dX7_ask_30 : decode cX7_ask 30 = .ok (.istore 5, 2) := by decide +kernel
theorem dX7_ask_32 : decode cX7_ask 32 = .ok (.iload 5, 2) := by decide +kernel
theorem dX7_ask_34 : decode cX7_ask 34 = .ok (.iconst 4, 1) := by decide +kernel
theorem dX7_ask_35 : decode cX7_ask 35 = .ok (.if_icmp .ge 20, 3) := by decide +kernel
theorem dX7_ask_38 : decode cX7_ask 38 = .ok (.iload 4, 2) := by decide +kernel
theorem dX7_ask_40 : decode cX7_ask 40 = .ok (.iload_n 3, 1) := by decide +kernel
theorem dX7_ask_41 : decode cX7_ask 41 = .ok (.iload 5, 2) := by decide +kernel
theorem dX7_ask_43 : decode cX7_ask 43 = .ok (.ishr, 1) := by decide +kernel
theorem dX7_ask_44 : decode cX7_ask 44 = .ok (.iconst 1, 1) := by decide +kernel
theorem dX7_ask_45 : decode cX7_ask 45 = .ok (.iand, 1) := by decide +kernel
theorem dX7_ask_46 : decode cX7_ask 46 = .ok (.iadd, 1) := by decide +kernel
theorem dX7_ask_47 : decode cX7_ask 47 = .ok (.istore 4, 2) := by decide +kernel
theorem dX7_ask_49 : decode cX7_ask 49 = .ok (.iinc 5 1, 3) := by decide +kernel
theorem dX7_ask_52 : decode cX7_ask 52 = .ok (.goto (-20), 3) := by decide +kernel
theorem dX7_ask_55 : decode cX7_ask 55 = .ok (.bipush (-4), 2) := by decide +kernel
theorem dX7_ask_57 : decode cX7_ask 57 = .ok (.istore 5, 2) := by decide +kernel
theorem dX7_ask_59 : decode cX7_ask 59 = .ok (.iconst 0, 1) := by decide +kernel
theorem dX7_ask_60 : decode cX7_ask 60 = .ok (.istore 6, 2) := by decide +kernel
theorem dX7_ask_62 : decode cX7_ask 62 = .ok (.iload 6, 2) := by decide +kernel
theorem dX7_ask_64 : decode cX7_ask 64 = .ok (.bipush 20, 2) := by decide +kernel
theorem dX7_ask_66 : decode cX7_ask 66 = .ok (.if_icmp .gt 186, 3) := by decide +kernel
theorem dX7_ask_69 : decode cX7_ask 69 = .ok (.iconst 0, 1) := by decide +kernel
theorem dX7_ask_70 : decode cX7_ask 70 = .ok (.istore 7, 2) := by decide +kernel
theorem dX7_ask_72 : decode cX7_ask 72 = .ok (.iload 7, 2) := by decide +kernel
theorem dX7_ask_74 : decode cX7_ask 74 = .ok (.aload_n 0, 1) := by decide +kernel
theorem dX7_ask_75 : decode cX7_ask 75 = .ok (.getfield 145, 3) := by decide +kernel
theorem dX7_ask_78 : decode cX7_ask 78 = .ok (.if_icmp .ge 168, 3) := by decide +kernel
theorem dX7_ask_81 : decode cX7_ask 81 = .ok (.iconst 0, 1) := by decide +kernel
theorem dX7_ask_82 : decode cX7_ask 82 = .ok (.istore 8, 2) := by decide +kernel
theorem dX7_ask_84 : decode cX7_ask 84 = .ok (.iconst 0, 1) := by decide +kernel
theorem dX7_ask_85 : decode cX7_ask 85 = .ok (.istore 9, 2) := by decide +kernel
theorem dX7_ask_87 : decode cX7_ask 87 = .ok (.iload 9, 2) := by decide +kernel
theorem dX7_ask_89 : decode cX7_ask 89 = .ok (.iconst 4, 1) := by decide +kernel
theorem dX7_ask_90 : decode cX7_ask 90 = .ok (.if_icmp .ge 112, 3) := by decide +kernel
theorem dX7_ask_93 : decode cX7_ask 93 = .ok (.iconst 0, 1) := by decide +kernel
theorem dX7_ask_94 : decode cX7_ask 94 = .ok (.istore 10, 2) := by decide +kernel
theorem dX7_ask_96 : decode cX7_ask 96 = .ok (.iconst 0, 1) := by decide +kernel
theorem dX7_ask_97 : decode cX7_ask 97 = .ok (.istore 11, 2) := by decide +kernel
theorem dX7_ask_99 : decode cX7_ask 99 = .ok (.iload 11, 2) := by decide +kernel
theorem dX7_ask_101 : decode cX7_ask 101 = .ok (.iconst 4, 1) := by decide +kernel
theorem dX7_ask_102 : decode cX7_ask 102 = .ok (.if_icmp .ge 78, 3) := by decide +kernel
theorem dX7_ask_105 : decode cX7_ask 105 = .ok (.iload_n 3, 1) := by decide +kernel
theorem dX7_ask_106 : decode cX7_ask 106 = .ok (.iload 9, 2) := by decide +kernel
theorem dX7_ask_108 : decode cX7_ask 108 = .ok (.ishr, 1) := by decide +kernel
theorem dX7_ask_109 : decode cX7_ask 109 = .ok (.iconst 1, 1) := by decide +kernel
theorem dX7_ask_110 : decode cX7_ask 110 = .ok (.iand, 1) := by decide +kernel
theorem dX7_ask_111 : decode cX7_ask 111 = .ok (.iconst 1, 1) := by decide +kernel
theorem dX7_ask_112 : decode cX7_ask 112 = .ok (.if_icmp .ne 68, 3) := by decide +kernel
theorem dX7_ask_115 : decode cX7_ask 115 = .ok (.iload 10, 2) := by decide +kernel
theorem dX7_ask_117 : decode cX7_ask 117 = .ok (.iload_n 3, 1) := by decide +kernel
theorem dX7_ask_118 : decode cX7_ask 118 = .ok (.iload 11, 2) := by decide +kernel
theorem dX7_ask_120 : decode cX7_ask 120 = .ok (.ishr, 1) := by decide +kernel
theorem dX7_ask_121 : decode cX7_ask 121 = .ok (.iconst 1, 1) := by decide +kernel
theorem dX7_ask_122 : decode cX7_ask 122 = .ok (.iand, 1) := by decide +kernel
theorem dX7_ask_123 : decode cX7_ask 123 = .ok (.iconst 1, 1) := by decide +kernel
theorem dX7_ask_124 : decode cX7_ask 124 = .ok (.if_icmp .ne 46, 3) := by decide +kernel
theorem dX7_ask_127 : decode cX7_ask 127 = .ok (.aload_n 0, 1) := by decide +kernel
theorem dX7_ask_128 : decode cX7_ask 128 = .ok (.getfield 37, 3) := by decide +kernel
theorem dX7_ask_131 : decode cX7_ask 131 = .ok (.bipush 84, 2) := by decide +kernel
theorem dX7_ask_133 : decode cX7_ask 133 = .ok (.iload 9, 2) := by decide +kernel
theorem dX7_ask_135 : decode cX7_ask 135 = .ok (.imul, 1) := by decide +kernel
theorem dX7_ask_136 : decode cX7_ask 136 = .ok (.iconst 4, 1) := by decide +kernel
theorem dX7_ask_137 : decode cX7_ask 137 = .ok (.iload 6, 2) := by decide +kernel
theorem dX7_ask_139 : decode cX7_ask 139 = .ok (.imul, 1) := by decide +kernel
theorem dX7_ask_140 : decode cX7_ask 140 = .ok (.iadd, 1) := by decide +kernel
theorem dX7_ask_141 : decode cX7_ask 141 = .ok (.iload 7, 2) := by decide +kernel
theorem dX7_ask_143 : decode cX7_ask 143 = .ok (.iadd, 1) := by decide +kernel
theorem dX7_ask_144 : decode cX7_ask 144 = .ok (.iaload, 1) := by decide +kernel
theorem dX7_ask_145 : decode cX7_ask 145 = .ok (.aload_n 0, 1) := by decide +kernel
theorem dX7_ask_146 : decode cX7_ask 146 = .ok (.getfield 37, 3) := by decide +kernel
theorem dX7_ask_149 : decode cX7_ask 149 = .ok (.bipush 84, 2) := by decide +kernel
theorem dX7_ask_151 : decode cX7_ask 151 = .ok (.iload 11, 2) := by decide +kernel
theorem dX7_ask_153 : decode cX7_ask 153 = .ok (.imul, 1) := by decide +kernel
theorem dX7_ask_154 : decode cX7_ask 154 = .ok (.iconst 4, 1) := by decide +kernel
theorem dX7_ask_155 : decode cX7_ask 155 = .ok (.iload 6, 2) := by decide +kernel
theorem dX7_ask_157 : decode cX7_ask 157 = .ok (.imul, 1) := by decide +kernel
theorem dX7_ask_158 : decode cX7_ask 158 = .ok (.iadd, 1) := by decide +kernel
theorem dX7_ask_159 : decode cX7_ask 159 = .ok (.iload 7, 2) := by decide +kernel
theorem dX7_ask_161 : decode cX7_ask 161 = .ok (.iadd, 1) := by decide +kernel
theorem dX7_ask_162 : decode cX7_ask 162 = .ok (.iaload, 1) := by decide +kernel
theorem dX7_ask_163 : decode cX7_ask 163 = .ok (.if_icmp .ne 7, 3) := by decide +kernel
theorem dX7_ask_166 : decode cX7_ask 166 = .ok (.iconst 1, 1) := by decide +kernel
theorem dX7_ask_167 : decode cX7_ask 167 = .ok (.goto 4, 3) := by decide +kernel
theorem dX7_ask_170 : decode cX7_ask 170 = .ok (.iconst 0, 1) := by decide +kernel
theorem dX7_ask_171 : decode cX7_ask 171 = .ok (.iadd, 1) := by decide +kernel
theorem dX7_ask_172 : decode cX7_ask 172 = .ok (.istore 10, 2) := by decide +kernel
theorem dX7_ask_174 : decode cX7_ask 174 = .ok (.iinc 11 1, 3) := by decide +kernel
theorem dX7_ask_177 : decode cX7_ask 177 = .ok (.goto (-78), 3) := by decide +kernel
theorem dX7_ask_180 : decode cX7_ask 180 = .ok (.iload 10, 2) := by decide +kernel
theorem dX7_ask_182 : decode cX7_ask 182 = .ok (.iload 8, 2) := by decide +kernel
theorem dX7_ask_184 : decode cX7_ask 184 = .ok (.if_icmp .le 8, 3) := by decide +kernel
theorem dX7_ask_187 : decode cX7_ask 187 = .ok (.iload 10, 2) := by decide +kernel
theorem dX7_ask_189 : decode cX7_ask 189 = .ok (.goto 5, 3) := by decide +kernel
theorem dX7_ask_192 : decode cX7_ask 192 = .ok (.iload 8, 2) := by decide +kernel
theorem dX7_ask_194 : decode cX7_ask 194 = .ok (.istore 8, 2) := by decide +kernel
theorem dX7_ask_196 : decode cX7_ask 196 = .ok (.iinc 9 1, 3) := by decide +kernel
theorem dX7_ask_199 : decode cX7_ask 199 = .ok (.goto (-112), 3) := by decide +kernel
theorem dX7_ask_202 : decode cX7_ask 202 = .ok (.iload 8, 2) := by decide +kernel
theorem dX7_ask_204 : decode cX7_ask 204 = .ok (.iload 4, 2) := by decide +kernel
theorem dX7_ask_206 : decode cX7_ask 206 = .ok (.if_icmp .ge 14, 3) := by decide +kernel
theorem dX7_ask_209 : decode cX7_ask 209 = .ok (.bipush 10, 2) := by decide +kernel
theorem dX7_ask_211 : decode cX7_ask 211 = .ok (.iload 6, 2) := by decide +kernel
theorem dX7_ask_213 : decode cX7_ask 213 = .ok (.imul, 1) := by decide +kernel
theorem dX7_ask_214 : decode cX7_ask 214 = .ok (.iload 7, 2) := by decide +kernel
theorem dX7_ask_216 : decode cX7_ask 216 = .ok (.iadd, 1) := by decide +kernel
theorem dX7_ask_217 : decode cX7_ask 217 = .ok (.goto 5, 3) := by decide +kernel
theorem dX7_ask_220 : decode cX7_ask 220 = .ok (.iload 5, 2) := by decide +kernel
theorem dX7_ask_222 : decode cX7_ask 222 = .ok (.istore 5, 2) := by decide +kernel
theorem dX7_ask_224 : decode cX7_ask 224 = .ok (.iload 8, 2) := by decide +kernel
theorem dX7_ask_226 : decode cX7_ask 226 = .ok (.iload 4, 2) := by decide +kernel
theorem dX7_ask_228 : decode cX7_ask 228 = .ok (.if_icmp .ge 8, 3) := by decide +kernel
theorem dX7_ask_231 : decode cX7_ask 231 = .ok (.iload 8, 2) := by decide +kernel
theorem dX7_ask_233 : decode cX7_ask 233 = .ok (.goto 5, 3) := by decide +kernel
theorem dX7_ask_236 : decode cX7_ask 236 = .ok (.iload 4, 2) := by decide +kernel
theorem dX7_ask_238 : decode cX7_ask 238 = .ok (.istore 4, 2) := by decide +kernel
theorem dX7_ask_240 : decode cX7_ask 240 = .ok (.iinc 7 1, 3) := by decide +kernel
theorem dX7_ask_243 : decode cX7_ask 243 = .ok (.goto (-171), 3) := by decide +kernel
theorem dX7_ask_246 : decode cX7_ask 246 = .ok (.iinc 6 1, 3) := by decide +kernel
theorem dX7_ask_249 : decode cX7_ask 249 = .ok (.goto (-187), 3) := by decide +kernel
theorem dX7_ask_252 : decode cX7_ask 252 = .ok (.iload 5, 2) := by decide +kernel
theorem dX7_ask_254 : decode cX7_ask 254 = .ok (.bipush (-4), 2) := by decide +kernel
theorem dX7_ask_256 : decode cX7_ask 256 = .ok (.if_icmp .eq 7, 3) := by decide +kernel
theorem dX7_ask_259 : decode cX7_ask 259 = .ok (.iload_n 2, 1) := by decide +kernel
theorem dX7_ask_260 : decode cX7_ask 260 = .ok (.ifCond .ne 8, 3) := by decide +kernel
theorem dX7_ask_263 : decode cX7_ask 263 = .ok (.iload 5, 2) := by decide +kernel
theorem dX7_ask_265 : decode cX7_ask 265 = .ok (.goto 5, 3) := by decide +kernel
theorem dX7_ask_268 : decode cX7_ask 268 = .ok (.iload 4, 2) := by decide +kernel
theorem dX7_ask_270 : decode cX7_ask 270 = .ok (.ireturn, 1) := by decide +kernel
theorem dX7_drift_0 : decode cX7_drift 0 = .ok (.iload_n 2, 1) := by decide +kernel
theorem dX7_drift_1 : decode cX7_drift 1 = .ok (.i2l, 1) := by decide +kernel
theorem dX7_drift_2 : decode cX7_drift 2 = .ok (.lconst 1, 1) := by decide +kernel
theorem dX7_drift_3 : decode cX7_drift 3 = .ok (.ldc2_w 218, 3) := by decide +kernel
theorem dX7_drift_6 : decode cX7_drift 6 = .ok (.invokestatic 55, 3) := by decide +kernel
theorem dX7_drift_9 : decode cX7_drift 9 = .ok (.ifCond .eq 13, 3) := by decide +kernel
theorem dX7_drift_12 : decode cX7_drift 12 = .ok (.iload_n 3, 1) := by decide +kernel
theorem dX7_drift_13 : decode cX7_drift 13 = .ok (.i2l, 1) := by decide +kernel
theorem dX7_drift_14 : decode cX7_drift 14 = .ok (.lconst 0, 1) := by decide +kernel
theorem dX7_drift_15 : decode cX7_drift 15 = .ok (.lconst 1, 1) := by decide +kernel
theorem dX7_drift_16 : decode cX7_drift 16 = .ok (.invokestatic 55, 3) := by decide +kernel
theorem dX7_drift_19 : decode cX7_drift 19 = .ok (.ifCond .ne 5, 3) := by decide +kernel
theorem dX7_drift_22 : decode cX7_drift 22 = .ok (.iconst (-1), 1) := by decide +kernel
theorem dX7_drift_23 : decode cX7_drift 23 = .ok (.ireturn, 1) := by decide +kernel
theorem dX7_drift_24 : decode cX7_drift 24 = .ok (.aload_n 0, 1) := by decide +kernel
theorem dX7_drift_25 : decode cX7_drift 25 = .ok (.getfield 142, 3) := by decide +kernel
theorem dX7_drift_28 : decode cX7_drift 28 = .ok (.ifCond .eq 10, 3) := by decide +kernel
theorem dX7_drift_31 : decode cX7_drift 31 = .ok (.aload_n 0, 1) := by decide +kernel
theorem dX7_drift_32 : decode cX7_drift 32 = .ok (.getfield 145, 3) := by decide +kernel
theorem dX7_drift_35 : decode cX7_drift 35 = .ok (.ifCond .ne 6, 3) := by decide +kernel
theorem dX7_drift_38 : decode cX7_drift 38 = .ok (.bipush (-2), 2) := by decide +kernel
theorem dX7_drift_40 : decode cX7_drift 40 = .ok (.ireturn, 1) := by decide +kernel
theorem dX7_drift_41 : decode cX7_drift 41 = .ok (.aload_n 0, 1) := by decide +kernel
theorem dX7_drift_42 : decode cX7_drift 42 = .ok (.iconst 0, 1) := by decide +kernel
theorem dX7_drift_43 : decode cX7_drift 43 = .ok (.sipush 220, 3) := by decide +kernel
theorem dX7_drift_46 : decode cX7_drift 46 = .ok (.invokevirtual 212, 3) := by decide +kernel
theorem dX7_drift_49 : decode cX7_drift 49 = .ok (.iload_n 1, 1) := by decide +kernel
theorem dX7_drift_50 : decode cX7_drift 50 = .ok (.istore 4, 2) := by decide +kernel
theorem dX7_drift_52 : decode cX7_drift 52 = .ok (.iconst 0, 1) := by decide +kernel
theorem dX7_drift_53 : decode cX7_drift 53 = .ok (.istore 5, 2) := by decide +kernel
theorem dX7_drift_55 : decode cX7_drift 55 = .ok (.iload 5, 2) := by decide +kernel
theorem dX7_drift_57 : decode cX7_drift 57 = .ok (.iload_n 2, 1) := by decide +kernel
theorem dX7_drift_58 : decode cX7_drift 58 = .ok (.if_icmp .ge 75, 3) := by decide +kernel
theorem dX7_drift_61 : decode cX7_drift 61 = .ok (.iload 4, 2) := by decide +kernel
theorem dX7_drift_63 : decode cX7_drift 63 = .ok (.ldc_w 261, 3) := by decide +kernel
theorem dX7_drift_66 : decode cX7_drift 66 = .ok (.imul, 1) := by decide +kernel
theorem dX7_drift_67 : decode cX7_drift 67 = .ok (.sipush 12345, 3) := by decide +kernel
theorem dX7_drift_70 : decode cX7_drift 70 = .ok (.iadd, 1) := by decide +kernel
theorem dX7_drift_71 : decode cX7_drift 71 = .ok (.istore 4, 2) := by decide +kernel
theorem dX7_drift_73 : decode cX7_drift 73 = .ok (.iload 4, 2) := by decide +kernel
theorem dX7_drift_75 : decode cX7_drift 75 = .ok (.bipush 16, 2) := by decide +kernel
theorem dX7_drift_77 : decode cX7_drift 77 = .ok (.ishr, 1) := by decide +kernel
theorem dX7_drift_78 : decode cX7_drift 78 = .ok (.sipush 32767, 3) := by decide +kernel
theorem dX7_drift_81 : decode cX7_drift 81 = .ok (.iand, 1) := by decide +kernel
theorem dX7_drift_82 : decode cX7_drift 82 = .ok (.istore 6, 2) := by decide +kernel
theorem dX7_drift_84 : decode cX7_drift 84 = .ok (.aload_n 0, 1) := by decide +kernel
theorem dX7_drift_85 : decode cX7_drift 85 = .ok (.sipush 220, 3) := by decide +kernel
theorem dX7_drift_88 : decode cX7_drift 88 = .ok (.iload 6, 2) := by decide +kernel
theorem dX7_drift_90 : decode cX7_drift 90 = .ok (.aload_n 0, 1) := by decide +kernel
theorem dX7_drift_91 : decode cX7_drift 91 = .ok (.getfield 145, 3) := by decide +kernel
theorem dX7_drift_94 : decode cX7_drift 94 = .ok (.irem, 1) := by decide +kernel
theorem dX7_drift_95 : decode cX7_drift 95 = .ok (.iload 6, 2) := by decide +kernel
theorem dX7_drift_97 : decode cX7_drift 97 = .ok (.bipush 8, 2) := by decide +kernel
theorem dX7_drift_99 : decode cX7_drift 99 = .ok (.idiv, 1) := by decide +kernel
theorem dX7_drift_100 : decode cX7_drift 100 = .ok (.aload_n 0, 1) := by decide +kernel
theorem dX7_drift_101 : decode cX7_drift 101 = .ok (.getfield 142, 3) := by decide +kernel
theorem dX7_drift_104 : decode cX7_drift 104 = .ok (.irem, 1) := by decide +kernel
theorem dX7_drift_105 : decode cX7_drift 105 = .ok (.iconst 1, 1) := by decide +kernel
theorem dX7_drift_106 : decode cX7_drift 106 = .ok (.iload 6, 2) := by decide +kernel
theorem dX7_drift_108 : decode cX7_drift 108 = .ok (.bipush 64, 2) := by decide +kernel
theorem dX7_drift_110 : decode cX7_drift 110 = .ok (.idiv, 1) := by decide +kernel
theorem dX7_drift_111 : decode cX7_drift 111 = .ok (.bipush 9, 2) := by decide +kernel
theorem dX7_drift_113 : decode cX7_drift 113 = .ok (.irem, 1) := by decide +kernel
theorem dX7_drift_114 : decode cX7_drift 114 = .ok (.iadd, 1) := by decide +kernel
theorem dX7_drift_115 : decode cX7_drift 115 = .ok (.invokevirtual 199, 3) := by decide +kernel
theorem dX7_drift_118 : decode cX7_drift 118 = .ok (.pop, 1) := by decide +kernel
theorem dX7_drift_119 : decode cX7_drift 119 = .ok (.aload_n 0, 1) := by decide +kernel
theorem dX7_drift_120 : decode cX7_drift 120 = .ok (.sipush 220, 3) := by decide +kernel
theorem dX7_drift_123 : decode cX7_drift 123 = .ok (.iconst 1, 1) := by decide +kernel
theorem dX7_drift_124 : decode cX7_drift 124 = .ok (.invokevirtual 208, 3) := by decide +kernel
theorem dX7_drift_127 : decode cX7_drift 127 = .ok (.iinc 5 1, 3) := by decide +kernel
theorem dX7_drift_130 : decode cX7_drift 130 = .ok (.goto (-75), 3) := by decide +kernel
theorem dX7_drift_133 : decode cX7_drift 133 = .ok (.iload_n 3, 1) := by decide +kernel
theorem dX7_drift_134 : decode cX7_drift 134 = .ok (.ifCond .ne 13, 3) := by decide +kernel
theorem dX7_drift_137 : decode cX7_drift 137 = .ok (.aload_n 0, 1) := by decide +kernel
theorem dX7_drift_138 : decode cX7_drift 138 = .ok (.sipush 220, 3) := by decide +kernel
theorem dX7_drift_141 : decode cX7_drift 141 = .ok (.invokevirtual 173, 3) := by decide +kernel
theorem dX7_drift_144 : decode cX7_drift 144 = .ok (.goto 19, 3) := by decide +kernel
theorem dX7_drift_147 : decode cX7_drift 147 = .ok (.aload_n 0, 1) := by decide +kernel
theorem dX7_drift_148 : decode cX7_drift 148 = .ok (.getfield 7, 3) := by decide +kernel
theorem dX7_drift_151 : decode cX7_drift 151 = .ok (.sipush 274, 3) := by decide +kernel
theorem dX7_drift_154 : decode cX7_drift 154 = .ok (.iaload, 1) := by decide +kernel
theorem dX7_drift_155 : decode cX7_drift 155 = .ok (.aload_n 0, 1) := by decide +kernel
theorem dX7_drift_156 : decode cX7_drift 156 = .ok (.getfield 7, 3) := by decide +kernel
theorem dX7_drift_159 : decode cX7_drift 159 = .ok (.bipush 54, 2) := by decide +kernel
theorem dX7_drift_161 : decode cX7_drift 161 = .ok (.iaload, 1) := by decide +kernel
theorem dX7_drift_162 : decode cX7_drift 162 = .ok (.isub, 1) := by decide +kernel
theorem dX7_drift_163 : decode cX7_drift 163 = .ok (.ireturn, 1) := by decide +kernel
theorem dX7_keep_0 : decode cX7_keep 0 = .ok (.iload_n 1, 1) := by decide +kernel
theorem dX7_keep_1 : decode cX7_keep 1 = .ok (.i2l, 1) := by decide +kernel
theorem dX7_keep_2 : decode cX7_keep 2 = .ok (.lconst 0, 1) := by decide +kernel
theorem dX7_keep_3 : decode cX7_keep 3 = .ok (.lconst 1, 1) := by decide +kernel
theorem dX7_keep_4 : decode cX7_keep 4 = .ok (.invokestatic 55, 3) := by decide +kernel
theorem dX7_keep_7 : decode cX7_keep 7 = .ok (.ifCond .ne 5, 3) := by decide +kernel
theorem dX7_keep_10 : decode cX7_keep 10 = .ok (.iconst (-1), 1) := by decide +kernel
theorem dX7_keep_11 : decode cX7_keep 11 = .ok (.ireturn, 1) := by decide +kernel
theorem dX7_keep_12 : decode cX7_keep 12 = .ok (.aload_n 0, 1) := by decide +kernel
theorem dX7_keep_13 : decode cX7_keep 13 = .ok (.iconst 0, 1) := by decide +kernel
theorem dX7_keep_14 : decode cX7_keep 14 = .ok (.bipush 55, 2) := by decide +kernel
theorem dX7_keep_16 : decode cX7_keep 16 = .ok (.iload_n 1, 1) := by decide +kernel
theorem dX7_keep_17 : decode cX7_keep 17 = .ok (.iconst 1, 1) := by decide +kernel
theorem dX7_keep_18 : decode cX7_keep 18 = .ok (.iadd, 1) := by decide +kernel
theorem dX7_keep_19 : decode cX7_keep 19 = .ok (.imul, 1) := by decide +kernel
theorem dX7_keep_20 : decode cX7_keep 20 = .ok (.invokevirtual 212, 3) := by decide +kernel
theorem dX7_keep_23 : decode cX7_keep 23 = .ok (.aload_n 0, 1) := by decide +kernel
theorem dX7_keep_24 : decode cX7_keep 24 = .ok (.getfield 40, 3) := by decide +kernel
theorem dX7_keep_27 : decode cX7_keep 27 = .ok (.iload_n 1, 1) := by decide +kernel
theorem dX7_keep_28 : decode cX7_keep 28 = .ok (.baload, 1) := by decide +kernel
theorem dX7_keep_29 : decode cX7_keep 29 = .ok (.ifCond .eq 7, 3) := by decide +kernel
theorem dX7_keep_32 : decode cX7_keep 32 = .ok (.iconst 1, 1) := by decide +kernel
theorem dX7_keep_33 : decode cX7_keep 33 = .ok (.goto 4, 3) := by decide +kernel
theorem dX7_keep_36 : decode cX7_keep 36 = .ok (.iconst 0, 1) := by decide +kernel
theorem dX7_keep_37 : decode cX7_keep 37 = .ok (.istore_n 2, 1) := by decide +kernel
theorem dX7_keep_38 : decode cX7_keep 38 = .ok (.aload_n 0, 1) := by decide +kernel
theorem dX7_keep_39 : decode cX7_keep 39 = .ok (.getfield 40, 3) := by decide +kernel
theorem dX7_keep_42 : decode cX7_keep 42 = .ok (.iload_n 1, 1) := by decide +kernel
theorem dX7_keep_43 : decode cX7_keep 43 = .ok (.iconst 1, 1) := by decide +kernel
theorem dX7_keep_44 : decode cX7_keep 44 = .ok (.bastore, 1) := by decide +kernel
theorem dX7_keep_45 : decode cX7_keep 45 = .ok (.iload_n 2, 1) := by decide +kernel
theorem dX7_keep_46 : decode cX7_keep 46 = .ok (.ireturn, 1) := by decide +kernel
theorem dX7_back_0 : decode cX7_back 0 = .ok (.iload_n 1, 1) := by decide +kernel
theorem dX7_back_1 : decode cX7_back 1 = .ok (.i2l, 1) := by decide +kernel
theorem dX7_back_2 : decode cX7_back 2 = .ok (.lconst 0, 1) := by decide +kernel
theorem dX7_back_3 : decode cX7_back 3 = .ok (.lconst 1, 1) := by decide +kernel
theorem dX7_back_4 : decode cX7_back 4 = .ok (.invokestatic 55, 3) := by decide +kernel
theorem dX7_back_7 : decode cX7_back 7 = .ok (.ifCond .ne 5, 3) := by decide +kernel
theorem dX7_back_10 : decode cX7_back 10 = .ok (.iconst (-1), 1) := by decide +kernel
theorem dX7_back_11 : decode cX7_back 11 = .ok (.ireturn, 1) := by decide +kernel
theorem dX7_back_12 : decode cX7_back 12 = .ok (.aload_n 0, 1) := by decide +kernel
theorem dX7_back_13 : decode cX7_back 13 = .ok (.getfield 40, 3) := by decide +kernel
theorem dX7_back_16 : decode cX7_back 16 = .ok (.iload_n 1, 1) := by decide +kernel
theorem dX7_back_17 : decode cX7_back 17 = .ok (.baload, 1) := by decide +kernel
theorem dX7_back_18 : decode cX7_back 18 = .ok (.ifCond .ne 6, 3) := by decide +kernel
theorem dX7_back_21 : decode cX7_back 21 = .ok (.bipush (-2), 2) := by decide +kernel
theorem dX7_back_23 : decode cX7_back 23 = .ok (.ireturn, 1) := by decide +kernel
theorem dX7_back_24 : decode cX7_back 24 = .ok (.aload_n 0, 1) := by decide +kernel
theorem dX7_back_25 : decode cX7_back 25 = .ok (.bipush 55, 2) := by decide +kernel
theorem dX7_back_27 : decode cX7_back 27 = .ok (.iload_n 1, 1) := by decide +kernel
theorem dX7_back_28 : decode cX7_back 28 = .ok (.iconst 1, 1) := by decide +kernel
theorem dX7_back_29 : decode cX7_back 29 = .ok (.iadd, 1) := by decide +kernel
theorem dX7_back_30 : decode cX7_back 30 = .ok (.imul, 1) := by decide +kernel
theorem dX7_back_31 : decode cX7_back 31 = .ok (.iconst 0, 1) := by decide +kernel
theorem dX7_back_32 : decode cX7_back 32 = .ok (.invokevirtual 212, 3) := by decide +kernel
theorem dX7_back_35 : decode cX7_back 35 = .ok (.aload_n 0, 1) := by decide +kernel
theorem dX7_back_36 : decode cX7_back 36 = .ok (.getfield 7, 3) := by decide +kernel
theorem dX7_back_39 : decode cX7_back 39 = .ok (.bipush 53, 2) := by decide +kernel
theorem dX7_back_41 : decode cX7_back 41 = .ok (.iaload, 1) := by decide +kernel
theorem dX7_back_42 : decode cX7_back 42 = .ok (.ireturn, 1) := by decide +kernel
theorem dX7_sheet_0 : decode cX7_sheet 0 = .ok (.iload_n 1, 1) := by decide +kernel
theorem dX7_sheet_1 : decode cX7_sheet 1 = .ok (.i2l, 1) := by decide +kernel
theorem dX7_sheet_2 : decode cX7_sheet 2 = .ok (.lconst 0, 1) := by decide +kernel
theorem dX7_sheet_3 : decode cX7_sheet 3 = .ok (.ldc2_w 220, 3) := by decide +kernel
theorem dX7_sheet_6 : decode cX7_sheet 6 = .ok (.invokestatic 55, 3) := by decide +kernel
theorem dX7_sheet_9 : decode cX7_sheet 9 = .ok (.ifCond .eq 21, 3) := by decide +kernel
theorem dX7_sheet_12 : decode cX7_sheet 12 = .ok (.iload_n 2, 1) := by decide +kernel
theorem dX7_sheet_13 : decode cX7_sheet 13 = .ok (.i2l, 1) := by decide +kernel
theorem dX7_sheet_14 : decode cX7_sheet 14 = .ok (.lconst 0, 1) := by decide +kernel
theorem dX7_sheet_15 : decode cX7_sheet 15 = .ok (.ldc2_w 225, 3) := by decide +kernel
theorem dX7_sheet_18 : decode cX7_sheet 18 = .ok (.invokestatic 55, 3) := by decide +kernel
theorem dX7_sheet_21 : decode cX7_sheet 21 = .ok (.ifCond .eq 9, 3) := by decide +kernel
theorem dX7_sheet_24 : decode cX7_sheet 24 = .ok (.iload_n 3, 1) := by decide +kernel
theorem dX7_sheet_25 : decode cX7_sheet 25 = .ok (.bipush 40, 2) := by decide +kernel
theorem dX7_sheet_27 : decode cX7_sheet 27 = .ok (.if_icmp .le 5, 3) := by decide +kernel
theorem dX7_sheet_30 : decode cX7_sheet 30 = .ok (.iconst (-1), 1) := by decide +kernel
theorem dX7_sheet_31 : decode cX7_sheet 31 = .ok (.ireturn, 1) := by decide +kernel
theorem dX7_sheet_32 : decode cX7_sheet 32 = .ok (.iload_n 3, 1) := by decide +kernel
theorem dX7_sheet_33 : decode cX7_sheet 33 = .ok (.ifCond .ge 6, 3) := by decide +kernel
theorem dX7_sheet_36 : decode cX7_sheet 36 = .ok (.bipush (-14), 2) := by decide +kernel
theorem dX7_sheet_38 : decode cX7_sheet 38 = .ok (.ireturn, 1) := by decide +kernel
theorem dX7_sheet_39 : decode cX7_sheet 39 = .ok (.aload_n 0, 1) := by decide +kernel
theorem dX7_sheet_40 : decode cX7_sheet 40 = .ok (.getfield 44, 3) := by decide +kernel
theorem dX7_sheet_43 : decode cX7_sheet 43 = .ok (.iload_n 1, 1) := by decide +kernel
theorem dX7_sheet_44 : decode cX7_sheet 44 = .ok (.iload_n 2, 1) := by decide +kernel
theorem dX7_sheet_45 : decode cX7_sheet 45 = .ok (.iastore, 1) := by decide +kernel
theorem dX7_sheet_46 : decode cX7_sheet 46 = .ok (.aload_n 0, 1) := by decide +kernel
theorem dX7_sheet_47 : decode cX7_sheet 47 = .ok (.getfield 47, 3) := by decide +kernel
theorem dX7_sheet_50 : decode cX7_sheet 50 = .ok (.iload_n 1, 1) := by decide +kernel
theorem dX7_sheet_51 : decode cX7_sheet 51 = .ok (.iload_n 3, 1) := by decide +kernel
theorem dX7_sheet_52 : decode cX7_sheet 52 = .ok (.iastore, 1) := by decide +kernel
theorem dX7_sheet_53 : decode cX7_sheet 53 = .ok (.iconst 0, 1) := by decide +kernel
theorem dX7_sheet_54 : decode cX7_sheet 54 = .ok (.istore 4, 2) := by decide +kernel
theorem dX7_sheet_56 : decode cX7_sheet 56 = .ok (.iload 4, 2) := by decide +kernel
theorem dX7_sheet_58 : decode cX7_sheet 58 = .ok (.bipush 40, 2) := by decide +kernel
theorem dX7_sheet_60 : decode cX7_sheet 60 = .ok (.if_icmp .ge 22, 3) := by decide +kernel
theorem dX7_sheet_63 : decode cX7_sheet 63 = .ok (.aload_n 0, 1) := by decide +kernel
theorem dX7_sheet_64 : decode cX7_sheet 64 = .ok (.getfield 50, 3) := by decide +kernel
theorem dX7_sheet_67 : decode cX7_sheet 67 = .ok (.bipush 40, 2) := by decide +kernel
theorem dX7_sheet_69 : decode cX7_sheet 69 = .ok (.iload_n 1, 1) := by decide +kernel
theorem dX7_sheet_70 : decode cX7_sheet 70 = .ok (.imul, 1) := by decide +kernel
theorem dX7_sheet_71 : decode cX7_sheet 71 = .ok (.iload 4, 2) := by decide +kernel
theorem dX7_sheet_73 : decode cX7_sheet 73 = .ok (.iadd, 1) := by decide +kernel
theorem dX7_sheet_74 : decode cX7_sheet 74 = .ok (.iconst 0, 1) := by decide +kernel
theorem dX7_sheet_75 : decode cX7_sheet 75 = .ok (.iastore, 1) := by decide +kernel
theorem dX7_sheet_76 : decode cX7_sheet 76 = .ok (.iinc 4 1, 3) := by decide +kernel
theorem dX7_sheet_79 : decode cX7_sheet 79 = .ok (.goto (-23), 3) := by decide +kernel
theorem dX7_sheet_82 : decode cX7_sheet 82 = .ok (.iconst 1, 1) := by decide +kernel
theorem dX7_sheet_83 : decode cX7_sheet 83 = .ok (.ireturn, 1) := by decide +kernel
theorem dX7_lay_0 : decode cX7_lay 0 = .ok (.iload_n 1, 1) := by decide +kernel
theorem dX7_lay_1 : decode cX7_lay 1 = .ok (.i2l, 1) := by decide +kernel
theorem dX7_lay_2 : decode cX7_lay 2 = .ok (.lconst 0, 1) := by decide +kernel
theorem dX7_lay_3 : decode cX7_lay 3 = .ok (.ldc2_w 220, 3) := by decide +kernel
theorem dX7_lay_6 : decode cX7_lay 6 = .ok (.invokestatic 55, 3) := by decide +kernel
theorem dX7_lay_9 : decode cX7_lay 9 = .ok (.ifCond .ne 5, 3) := by decide +kernel
theorem dX7_lay_12 : decode cX7_lay 12 = .ok (.iconst (-1), 1) := by decide +kernel
theorem dX7_lay_13 : decode cX7_lay 13 = .ok (.ireturn, 1) := by decide +kernel
theorem dX7_lay_14 : decode cX7_lay 14 = .ok (.aload_n 0, 1) := by decide +kernel
theorem dX7_lay_15 : decode cX7_lay 15 = .ok (.getfield 44, 3) := by decide +kernel
theorem dX7_lay_18 : decode cX7_lay 18 = .ok (.iload_n 1, 1) := by decide +kernel
theorem dX7_lay_19 : decode cX7_lay 19 = .ok (.iaload, 1) := by decide +kernel
theorem dX7_lay_20 : decode cX7_lay 20 = .ok (.bipush (-4), 2) := by decide +kernel
theorem dX7_lay_22 : decode cX7_lay 22 = .ok (.if_icmp .ne 6, 3) := by decide +kernel
theorem dX7_lay_25 : decode cX7_lay 25 = .ok (.bipush (-11), 2) := by decide +kernel
theorem dX7_lay_27 : decode cX7_lay 27 = .ok (.ireturn, 1) := by decide +kernel
theorem dX7_lay_28 : decode cX7_lay 28 = .ok (.iload_n 2, 1) := by decide +kernel
theorem dX7_lay_29 : decode cX7_lay 29 = .ok (.i2l, 1) := by decide +kernel
theorem dX7_lay_30 : decode cX7_lay 30 = .ok (.lconst 0, 1) := by decide +kernel
theorem dX7_lay_31 : decode cX7_lay 31 = .ok (.aload_n 0, 1) := by decide +kernel
theorem dX7_lay_32 : decode cX7_lay 32 = .ok (.getfield 47, 3) := by decide +kernel
theorem dX7_lay_35 : decode cX7_lay 35 = .ok (.iload_n 1, 1) := by decide +kernel
theorem dX7_lay_36 : decode cX7_lay 36 = .ok (.iaload, 1) := by decide +kernel
theorem dX7_lay_37 : decode cX7_lay 37 = .ok (.iconst 1, 1) := by decide +kernel
theorem dX7_lay_38 : decode cX7_lay 38 = .ok (.isub, 1) := by decide +kernel
theorem dX7_lay_39 : decode cX7_lay 39 = .ok (.i2l, 1) := by decide +kernel
theorem dX7_lay_40 : decode cX7_lay 40 = .ok (.invokestatic 55, 3) := by decide +kernel
theorem dX7_lay_43 : decode cX7_lay 43 = .ok (.ifCond .ne 6, 3) := by decide +kernel
theorem dX7_lay_46 : decode cX7_lay 46 = .ok (.bipush (-12), 2) := by decide +kernel
theorem dX7_lay_48 : decode cX7_lay 48 = .ok (.ireturn, 1) := by decide +kernel
theorem dX7_lay_49 : decode cX7_lay 49 = .ok (.aload_n 0, 1) := by decide +kernel
theorem dX7_lay_50 : decode cX7_lay 50 = .ok (.getfield 50, 3) := by decide +kernel
theorem dX7_lay_53 : decode cX7_lay 53 = .ok (.bipush 40, 2) := by decide +kernel
theorem dX7_lay_55 : decode cX7_lay 55 = .ok (.iload_n 1, 1) := by decide +kernel
theorem dX7_lay_56 : decode cX7_lay 56 = .ok (.imul, 1) := by decide +kernel
theorem dX7_lay_57 : decode cX7_lay 57 = .ok (.iload_n 2, 1) := by decide +kernel
theorem dX7_lay_58 : decode cX7_lay 58 = .ok (.iadd, 1) := by decide +kernel
theorem dX7_lay_59 : decode cX7_lay 59 = .ok (.aload_n 0, 1) := by decide +kernel
theorem dX7_lay_60 : decode cX7_lay 60 = .ok (.getfield 44, 3) := by decide +kernel
theorem dX7_lay_63 : decode cX7_lay 63 = .ok (.iload_n 1, 1) := by decide +kernel
theorem dX7_lay_64 : decode cX7_lay 64 = .ok (.iaload, 1) := by decide +kernel
theorem dX7_lay_65 : decode cX7_lay 65 = .ok (.ifCond .ne 13, 3) := by decide +kernel
theorem dX7_lay_68 : decode cX7_lay 68 = .ok (.iload_n 3, 1) := by decide +kernel
theorem dX7_lay_69 : decode cX7_lay 69 = .ok (.bipush 24, 2) := by decide +kernel
theorem dX7_lay_71 : decode cX7_lay 71 = .ok (.ishl, 1) := by decide +kernel
theorem dX7_lay_72 : decode cX7_lay 72 = .ok (.bipush 24, 2) := by decide +kernel
theorem dX7_lay_74 : decode cX7_lay 74 = .ok (.ishr, 1) := by decide +kernel
theorem dX7_lay_75 : decode cX7_lay 75 = .ok (.goto 24, 3) := by decide +kernel
theorem dX7_lay_78 : decode cX7_lay 78 = .ok (.aload_n 0, 1) := by decide +kernel
theorem dX7_lay_79 : decode cX7_lay 79 = .ok (.getfield 44, 3) := by decide +kernel
theorem dX7_lay_82 : decode cX7_lay 82 = .ok (.iload_n 1, 1) := by decide +kernel
theorem dX7_lay_83 : decode cX7_lay 83 = .ok (.iaload, 1) := by decide +kernel
theorem dX7_lay_84 : decode cX7_lay 84 = .ok (.iconst 1, 1) := by decide +kernel
theorem dX7_lay_85 : decode cX7_lay 85 = .ok (.if_icmp .ne 13, 3) := by decide +kernel
theorem dX7_lay_88 : decode cX7_lay 88 = .ok (.iload_n 3, 1) := by decide +kernel
theorem dX7_lay_89 : decode cX7_lay 89 = .ok (.bipush 16, 2) := by decide +kernel
theorem dX7_lay_91 : decode cX7_lay 91 = .ok (.ishl, 1) := by decide +kernel
theorem dX7_lay_92 : decode cX7_lay 92 = .ok (.bipush 16, 2) := by decide +kernel
theorem dX7_lay_94 : decode cX7_lay 94 = .ok (.ishr, 1) := by decide +kernel
theorem dX7_lay_95 : decode cX7_lay 95 = .ok (.goto 4, 3) := by decide +kernel
theorem dX7_lay_98 : decode cX7_lay 98 = .ok (.iload_n 3, 1) := by decide +kernel
theorem dX7_lay_99 : decode cX7_lay 99 = .ok (.iastore, 1) := by decide +kernel
theorem dX7_lay_100 : decode cX7_lay 100 = .ok (.iconst 1, 1) := by decide +kernel
theorem dX7_lay_101 : decode cX7_lay 101 = .ok (.ireturn, 1) := by decide +kernel
theorem dX7_read_0 : decode cX7_read 0 = .ok (.iload_n 1, 1) := by decide +kernel
theorem dX7_read_1 : decode cX7_read 1 = .ok (.i2l, 1) := by decide +kernel
theorem dX7_read_2 : decode cX7_read 2 = .ok (.lconst 0, 1) := by decide +kernel
theorem dX7_read_3 : decode cX7_read 3 = .ok (.ldc2_w 220, 3) := by decide +kernel
theorem dX7_read_6 : decode cX7_read 6 = .ok (.invokestatic 55, 3) := by decide +kernel
theorem dX7_read_9 : decode cX7_read 9 = .ok (.ifCond .eq 28, 3) := by decide +kernel
theorem dX7_read_12 : decode cX7_read 12 = .ok (.iload_n 2, 1) := by decide +kernel
theorem dX7_read_13 : decode cX7_read 13 = .ok (.i2l, 1) := by decide +kernel
theorem dX7_read_14 : decode cX7_read 14 = .ok (.lconst 0, 1) := by decide +kernel
theorem dX7_read_15 : decode cX7_read 15 = .ok (.ldc2_w 225, 3) := by decide +kernel
theorem dX7_read_18 : decode cX7_read 18 = .ok (.invokestatic 55, 3) := by decide +kernel
theorem dX7_read_21 : decode cX7_read 21 = .ok (.ifCond .eq 16, 3) := by decide +kernel
theorem dX7_read_24 : decode cX7_read 24 = .ok (.iload 4, 2) := by decide +kernel
theorem dX7_read_26 : decode cX7_read 26 = .ok (.i2l, 1) := by decide +kernel
theorem dX7_read_27 : decode cX7_read 27 = .ok (.lconst 0, 1) := by decide +kernel
theorem dX7_read_28 : decode cX7_read 28 = .ok (.ldc2_w 262, 3) := by decide +kernel
theorem dX7_read_31 : decode cX7_read 31 = .ok (.invokestatic 55, 3) := by decide +kernel
theorem dX7_read_34 : decode cX7_read 34 = .ok (.ifCond .ne 5, 3) := by decide +kernel
theorem dX7_read_37 : decode cX7_read 37 = .ok (.iconst (-1), 1) := by decide +kernel
theorem dX7_read_38 : decode cX7_read 38 = .ok (.ireturn, 1) := by decide +kernel
theorem dX7_read_39 : decode cX7_read 39 = .ok (.aload_n 0, 1) := by decide +kernel
theorem dX7_read_40 : decode cX7_read 40 = .ok (.iconst 0, 1) := by decide +kernel
theorem dX7_read_41 : decode cX7_read 41 = .ok (.sipush 165, 3) := by decide +kernel
theorem dX7_read_44 : decode cX7_read 44 = .ok (.invokevirtual 212, 3) := by decide +kernel
theorem dX7_read_47 : decode cX7_read 47 = .ok (.iconst 0, 1) := by decide +kernel
theorem dX7_read_48 : decode cX7_read 48 = .ok (.istore 5, 2) := by decide +kernel
theorem dX7_read_50 : decode cX7_read 50 = .ok (.iconst 0, 1) := by decide +kernel
theorem dX7_read_51 : decode cX7_read 51 = .ok (.istore 6, 2) := by decide +kernel
theorem dX7_read_53 : decode cX7_read 53 = .ok (.iconst 0, 1) := by decide +kernel
theorem dX7_read_54 : decode cX7_read 54 = .ok (.istore 7, 2) := by decide +kernel
theorem dX7_read_56 : decode cX7_read 56 = .ok (.iload 7, 2) := by decide +kernel
theorem dX7_read_58 : decode cX7_read 58 = .ok (.iconst 3, 1) := by decide +kernel
theorem dX7_read_59 : decode cX7_read 59 = .ok (.iload 4, 2) := by decide +kernel
theorem dX7_read_61 : decode cX7_read 61 = .ok (.imul, 1) := by decide +kernel
theorem dX7_read_62 : decode cX7_read 62 = .ok (.if_icmp .ge 146, 3) := by decide +kernel
theorem dX7_read_65 : decode cX7_read 65 = .ok (.iload 5, 2) := by decide +kernel
theorem dX7_read_67 : decode cX7_read 67 = .ok (.ifCond .ne 141, 3) := by decide +kernel
theorem dX7_read_70 : decode cX7_read 70 = .ok (.aload_n 0, 1) := by decide +kernel
theorem dX7_read_71 : decode cX7_read 71 = .ok (.getfield 44, 3) := by decide +kernel
theorem dX7_read_74 : decode cX7_read 74 = .ok (.iload_n 1, 1) := by decide +kernel
theorem dX7_read_75 : decode cX7_read 75 = .ok (.iaload, 1) := by decide +kernel
theorem dX7_read_76 : decode cX7_read 76 = .ok (.bipush (-4), 2) := by decide +kernel
theorem dX7_read_78 : decode cX7_read 78 = .ok (.if_icmp .ne 7, 3) := by decide +kernel
theorem dX7_read_81 : decode cX7_read 81 = .ok (.iconst 1, 1) := by decide +kernel
theorem dX7_read_82 : decode cX7_read 82 = .ok (.goto 44, 3) := by decide +kernel
theorem dX7_read_85 : decode cX7_read 85 = .ok (.aload_n 0, 1) := by decide +kernel
theorem dX7_read_86 : decode cX7_read 86 = .ok (.getfield 44, 3) := by decide +kernel
theorem dX7_read_89 : decode cX7_read 89 = .ok (.iload_n 1, 1) := by decide +kernel
theorem dX7_read_90 : decode cX7_read 90 = .ok (.iaload, 1) := by decide +kernel
theorem dX7_read_91 : decode cX7_read 91 = .ok (.iload_n 2, 1) := by decide +kernel
theorem dX7_read_92 : decode cX7_read 92 = .ok (.if_icmp .eq 7, 3) := by decide +kernel
theorem dX7_read_95 : decode cX7_read 95 = .ok (.iconst 3, 1) := by decide +kernel
theorem dX7_read_96 : decode cX7_read 96 = .ok (.goto 30, 3) := by decide +kernel
theorem dX7_read_99 : decode cX7_read 99 = .ok (.iload_n 3, 1) := by decide +kernel
theorem dX7_read_100 : decode cX7_read 100 = .ok (.i2l, 1) := by decide +kernel
theorem dX7_read_101 : decode cX7_read 101 = .ok (.iload 7, 2) := by decide +kernel
theorem dX7_read_103 : decode cX7_read 103 = .ok (.i2l, 1) := by decide +kernel
theorem dX7_read_104 : decode cX7_read 104 = .ok (.ladd, 1) := by decide +kernel
theorem dX7_read_105 : decode cX7_read 105 = .ok (.lconst 0, 1) := by decide +kernel
theorem dX7_read_106 : decode cX7_read 106 = .ok (.aload_n 0, 1) := by decide +kernel
theorem dX7_read_107 : decode cX7_read 107 = .ok (.getfield 47, 3) := by decide +kernel
theorem dX7_read_110 : decode cX7_read 110 = .ok (.iload_n 1, 1) := by decide +kernel
theorem dX7_read_111 : decode cX7_read 111 = .ok (.iaload, 1) := by decide +kernel
theorem dX7_read_112 : decode cX7_read 112 = .ok (.iconst 1, 1) := by decide +kernel
theorem dX7_read_113 : decode cX7_read 113 = .ok (.isub, 1) := by decide +kernel
theorem dX7_read_114 : decode cX7_read 114 = .ok (.i2l, 1) := by decide +kernel
theorem dX7_read_115 : decode cX7_read 115 = .ok (.invokestatic 55, 3) := by decide +kernel
theorem dX7_read_118 : decode cX7_read 118 = .ok (.ifCond .ne 7, 3) := by decide +kernel
theorem dX7_read_121 : decode cX7_read 121 = .ok (.iconst 2, 1) := by decide +kernel
theorem dX7_read_122 : decode cX7_read 122 = .ok (.goto 4, 3) := by decide +kernel
theorem dX7_read_125 : decode cX7_read 125 = .ok (.iconst 0, 1) := by decide +kernel
theorem dX7_read_126 : decode cX7_read 126 = .ok (.istore 5, 2) := by decide +kernel
theorem dX7_read_128 : decode cX7_read 128 = .ok (.iload 5, 2) := by decide +kernel
theorem dX7_read_130 : decode cX7_read 130 = .ok (.ifCond .ne 72, 3) := by decide +kernel
theorem dX7_read_133 : decode cX7_read 133 = .ok (.iload 7, 2) := by decide +kernel
theorem dX7_read_135 : decode cX7_read 135 = .ok (.iconst 3, 1) := by decide +kernel
theorem dX7_read_136 : decode cX7_read 136 = .ok (.irem, 1) := by decide +kernel
theorem dX7_read_137 : decode cX7_read 137 = .ok (.iconst 2, 1) := by decide +kernel
theorem dX7_read_138 : decode cX7_read 138 = .ok (.if_icmp .ne 64, 3) := by decide +kernel
theorem dX7_read_141 : decode cX7_read 141 = .ok (.bipush 40, 2) := by decide +kernel
theorem dX7_read_143 : decode cX7_read 143 = .ok (.iload_n 1, 1) := by decide +kernel
theorem dX7_read_144 : decode cX7_read 144 = .ok (.imul, 1) := by decide +kernel
theorem dX7_read_145 : decode cX7_read 145 = .ok (.iload_n 3, 1) := by decide +kernel
theorem dX7_read_146 : decode cX7_read 146 = .ok (.iadd, 1) := by decide +kernel
theorem dX7_read_147 : decode cX7_read 147 = .ok (.iload 7, 2) := by decide +kernel
theorem dX7_read_149 : decode cX7_read 149 = .ok (.iadd, 1) := by decide +kernel
theorem dX7_read_150 : decode cX7_read 150 = .ok (.istore 8, 2) := by decide +kernel
theorem dX7_read_152 : decode cX7_read 152 = .ok (.aload_n 0, 1) := by decide +kernel
theorem dX7_read_153 : decode cX7_read 153 = .ok (.iconst 0, 1) := by decide +kernel
theorem dX7_read_154 : decode cX7_read 154 = .ok (.aload_n 0, 1) := by decide +kernel
theorem dX7_read_155 : decode cX7_read 155 = .ok (.getfield 50, 3) := by decide +kernel
theorem dX7_read_158 : decode cX7_read 158 = .ok (.iload 8, 2) := by decide +kernel
theorem dX7_read_160 : decode cX7_read 160 = .ok (.iconst 2, 1) := by decide +kernel
theorem dX7_read_161 : decode cX7_read 161 = .ok (.isub, 1) := by decide +kernel
theorem dX7_read_162 : decode cX7_read 162 = .ok (.iaload, 1) := by decide +kernel
theorem dX7_read_163 : decode cX7_read 163 = .ok (.aload_n 0, 1) := by decide +kernel
theorem dX7_read_164 : decode cX7_read 164 = .ok (.getfield 50, 3) := by decide +kernel
theorem dX7_read_167 : decode cX7_read 167 = .ok (.iload 8, 2) := by decide +kernel
theorem dX7_read_169 : decode cX7_read 169 = .ok (.iconst 1, 1) := by decide +kernel
theorem dX7_read_170 : decode cX7_read 170 = .ok (.isub, 1) := by decide +kernel
theorem dX7_read_171 : decode cX7_read 171 = .ok (.iaload, 1) := by decide +kernel
theorem dX7_read_172 : decode cX7_read 172 = .ok (.aload_n 0, 1) := by decide +kernel
theorem dX7_read_173 : decode cX7_read 173 = .ok (.getfield 50, 3) := by decide +kernel
theorem dX7_read_176 : decode cX7_read 176 = .ok (.iload 8, 2) := by decide +kernel
theorem dX7_read_178 : decode cX7_read 178 = .ok (.iaload, 1) := by decide +kernel
theorem dX7_read_179 : decode cX7_read 179 = .ok (.invokevirtual 199, 3) := by decide +kernel
theorem dX7_read_182 : decode cX7_read 182 = .ok (.ifCond .ge 17, 3) := by decide +kernel
theorem dX7_read_185 : decode cX7_read 185 = .ok (.aload_n 0, 1) := by decide +kernel
theorem dX7_read_186 : decode cX7_read 186 = .ok (.sipush 165, 3) := by decide +kernel
theorem dX7_read_189 : decode cX7_read 189 = .ok (.iconst 0, 1) := by decide +kernel
theorem dX7_read_190 : decode cX7_read 190 = .ok (.invokevirtual 212, 3) := by decide +kernel
theorem dX7_read_193 : decode cX7_read 193 = .ok (.bipush (-20), 2) := by decide +kernel
theorem dX7_read_195 : decode cX7_read 195 = .ok (.iload 6, 2) := by decide +kernel
theorem dX7_read_197 : decode cX7_read 197 = .ok (.isub, 1) := by decide +kernel
theorem dX7_read_198 : decode cX7_read 198 = .ok (.ireturn, 1) := by decide +kernel
theorem dX7_read_199 : decode cX7_read 199 = .ok (.iinc 6 1, 3) := by decide +kernel
theorem dX7_read_202 : decode cX7_read 202 = .ok (.iinc 7 1, 3) := by decide +kernel
theorem dX7_read_205 : decode cX7_read 205 = .ok (.goto (-149), 3) := by decide +kernel
theorem dX7_read_208 : decode cX7_read 208 = .ok (.aload_n 0, 1) := by decide +kernel
theorem dX7_read_209 : decode cX7_read 209 = .ok (.iload 5, 2) := by decide +kernel
theorem dX7_read_211 : decode cX7_read 211 = .ok (.putfield 264, 3) := by decide +kernel
theorem dX7_read_214 : decode cX7_read 214 = .ok (.iload 6, 2) := by decide +kernel
theorem dX7_read_216 : decode cX7_read 216 = .ok (.ireturn, 1) := by decide +kernel
theorem dX7_torn_0 : decode cX7_torn 0 = .ok (.aload_n 0, 1) := by decide +kernel
theorem dX7_torn_1 : decode cX7_torn 1 = .ok (.getfield 264, 3) := by decide +kernel
theorem dX7_torn_4 : decode cX7_torn 4 = .ok (.ireturn, 1) := by decide +kernel
theorem dX7_count_0 : decode cX7_count 0 = .ok (.iconst 0, 1) := by decide +kernel
theorem dX7_count_1 : decode cX7_count 1 = .ok (.istore_n 2, 1) := by decide +kernel
theorem dX7_count_2 : decode cX7_count 2 = .ok (.iconst 0, 1) := by decide +kernel
theorem dX7_count_3 : decode cX7_count 3 = .ok (.istore_n 3, 1) := by decide +kernel
theorem dX7_count_4 : decode cX7_count 4 = .ok (.iconst 0, 1) := by decide +kernel
theorem dX7_count_5 : decode cX7_count 5 = .ok (.istore 4, 2) := by decide +kernel
theorem dX7_count_7 : decode cX7_count 7 = .ok (.iload 4, 2) := by decide +kernel
theorem dX7_count_9 : decode cX7_count 9 = .ok (.aload_n 0, 1) := by decide +kernel
theorem dX7_count_10 : decode cX7_count 10 = .ok (.getfield 145, 3) := by decide +kernel
theorem dX7_count_13 : decode cX7_count 13 = .ok (.if_icmp .ge 35, 3) := by decide +kernel
theorem dX7_count_16 : decode cX7_count 16 = .ok (.iload_n 2, 1) := by decide +kernel
theorem dX7_count_17 : decode cX7_count 17 = .ok (.aload_n 0, 1) := by decide +kernel
theorem dX7_count_18 : decode cX7_count 18 = .ok (.getfield 7, 3) := by decide +kernel
theorem dX7_count_21 : decode cX7_count 21 = .ok (.bipush 25, 2) := by decide +kernel
theorem dX7_count_23 : decode cX7_count 23 = .ok (.iload 4, 2) := by decide +kernel
theorem dX7_count_25 : decode cX7_count 25 = .ok (.iadd, 1) := by decide +kernel
theorem dX7_count_26 : decode cX7_count 26 = .ok (.iaload, 1) := by decide +kernel
theorem dX7_count_27 : decode cX7_count 27 = .ok (.iadd, 1) := by decide +kernel
theorem dX7_count_28 : decode cX7_count 28 = .ok (.istore_n 2, 1) := by decide +kernel
theorem dX7_count_29 : decode cX7_count 29 = .ok (.iload_n 3, 1) := by decide +kernel
theorem dX7_count_30 : decode cX7_count 30 = .ok (.aload_n 0, 1) := by decide +kernel
theorem dX7_count_31 : decode cX7_count 31 = .ok (.getfield 7, 3) := by decide +kernel
theorem dX7_count_34 : decode cX7_count 34 = .ok (.bipush 29, 2) := by decide +kernel
theorem dX7_count_36 : decode cX7_count 36 = .ok (.iload 4, 2) := by decide +kernel
theorem dX7_count_38 : decode cX7_count 38 = .ok (.iadd, 1) := by decide +kernel
theorem dX7_count_39 : decode cX7_count 39 = .ok (.iaload, 1) := by decide +kernel
theorem dX7_count_40 : decode cX7_count 40 = .ok (.iadd, 1) := by decide +kernel
theorem dX7_count_41 : decode cX7_count 41 = .ok (.istore_n 3, 1) := by decide +kernel
theorem dX7_count_42 : decode cX7_count 42 = .ok (.iinc 4 1, 3) := by decide +kernel
theorem dX7_count_45 : decode cX7_count 45 = .ok (.goto (-38), 3) := by decide +kernel
theorem dX7_count_48 : decode cX7_count 48 = .ok (.iload_n 1, 1) := by decide +kernel
theorem dX7_count_49 : decode cX7_count 49 = .ok (.tableswitch 106 0 5 #[39, 44, 74, 79, 102, 104], 39) := by decide +kernel
theorem dX7_count_88 : decode cX7_count 88 = .ok (.aload_n 0, 1) := by decide +kernel
theorem dX7_count_89 : decode cX7_count 89 = .ok (.getfield 148, 3) := by decide +kernel
theorem dX7_count_92 : decode cX7_count 92 = .ok (.ireturn, 1) := by decide +kernel
theorem dX7_count_93 : decode cX7_count 93 = .ok (.aload_n 0, 1) := by decide +kernel
theorem dX7_count_94 : decode cX7_count 94 = .ok (.getfield 40, 3) := by decide +kernel
theorem dX7_count_97 : decode cX7_count 97 = .ok (.iconst 0, 1) := by decide +kernel
theorem dX7_count_98 : decode cX7_count 98 = .ok (.baload, 1) := by decide +kernel
theorem dX7_count_99 : decode cX7_count 99 = .ok (.ifCond .eq 7, 3) := by decide +kernel
theorem dX7_count_102 : decode cX7_count 102 = .ok (.iconst 1, 1) := by decide +kernel
theorem dX7_count_103 : decode cX7_count 103 = .ok (.goto 4, 3) := by decide +kernel
theorem dX7_count_106 : decode cX7_count 106 = .ok (.iconst 0, 1) := by decide +kernel
theorem dX7_count_107 : decode cX7_count 107 = .ok (.aload_n 0, 1) := by decide +kernel
theorem dX7_count_108 : decode cX7_count 108 = .ok (.getfield 40, 3) := by decide +kernel
theorem dX7_count_111 : decode cX7_count 111 = .ok (.iconst 1, 1) := by decide +kernel
theorem dX7_count_112 : decode cX7_count 112 = .ok (.baload, 1) := by decide +kernel
theorem dX7_count_113 : decode cX7_count 113 = .ok (.ifCond .eq 7, 3) := by decide +kernel
theorem dX7_count_116 : decode cX7_count 116 = .ok (.iconst 1, 1) := by decide +kernel
theorem dX7_count_117 : decode cX7_count 117 = .ok (.goto 4, 3) := by decide +kernel
theorem dX7_count_120 : decode cX7_count 120 = .ok (.iconst 0, 1) := by decide +kernel
theorem dX7_count_121 : decode cX7_count 121 = .ok (.iadd, 1) := by decide +kernel
theorem dX7_count_122 : decode cX7_count 122 = .ok (.ireturn, 1) := by decide +kernel
theorem dX7_count_123 : decode cX7_count 123 = .ok (.aload_n 0, 1) := by decide +kernel
theorem dX7_count_124 : decode cX7_count 124 = .ok (.getfield 59, 3) := by decide +kernel
theorem dX7_count_127 : decode cX7_count 127 = .ok (.ireturn, 1) := by decide +kernel
theorem dX7_count_128 : decode cX7_count 128 = .ok (.aload_n 0, 1) := by decide +kernel
theorem dX7_count_129 : decode cX7_count 129 = .ok (.getfield 44, 3) := by decide +kernel
theorem dX7_count_132 : decode cX7_count 132 = .ok (.iconst 0, 1) := by decide +kernel
theorem dX7_count_133 : decode cX7_count 133 = .ok (.iaload, 1) := by decide +kernel
theorem dX7_count_134 : decode cX7_count 134 = .ok (.bipush (-4), 2) := by decide +kernel
theorem dX7_count_136 : decode cX7_count 136 = .ok (.if_icmp .ne 8, 3) := by decide +kernel
theorem dX7_count_139 : decode cX7_count 139 = .ok (.bipush (-4), 2) := by decide +kernel
theorem dX7_count_141 : decode cX7_count 141 = .ok (.goto 9, 3) := by decide +kernel
theorem dX7_count_144 : decode cX7_count 144 = .ok (.aload_n 0, 1) := by decide +kernel
theorem dX7_count_145 : decode cX7_count 145 = .ok (.getfield 47, 3) := by decide +kernel
theorem dX7_count_148 : decode cX7_count 148 = .ok (.iconst 0, 1) := by decide +kernel
theorem dX7_count_149 : decode cX7_count 149 = .ok (.iaload, 1) := by decide +kernel
theorem dX7_count_150 : decode cX7_count 150 = .ok (.ireturn, 1) := by decide +kernel
theorem dX7_count_151 : decode cX7_count 151 = .ok (.iload_n 2, 1) := by decide +kernel
theorem dX7_count_152 : decode cX7_count 152 = .ok (.ireturn, 1) := by decide +kernel
theorem dX7_count_153 : decode cX7_count 153 = .ok (.iload_n 3, 1) := by decide +kernel
theorem dX7_count_154 : decode cX7_count 154 = .ok (.ireturn, 1) := by decide +kernel
theorem dX7_count_155 : decode cX7_count 155 = .ok (.iconst (-1), 1) := by decide +kernel
theorem dX7_count_156 : decode cX7_count 156 = .ok (.ireturn, 1) := by decide +kernel
