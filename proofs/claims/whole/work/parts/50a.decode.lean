theorem d_Model_init_0 : decode b_Model_init 0 = .ok (.aload_n 0, 1) := by decide +kernel
theorem d_Model_init_1 : decode b_Model_init 1 = .ok (.invokespecial 1, 3) := by decide +kernel
theorem d_Model_init_4 : decode b_Model_init 4 = .ok (.aload_n 0, 1) := by decide +kernel
theorem d_Model_init_5 : decode b_Model_init 5 = .ok (.bipush 64, 2) := by decide +kernel
theorem d_Model_init_7 : decode b_Model_init 7 = .ok (.newarray .int, 2) := by decide +kernel
theorem d_Model_init_9 : decode b_Model_init 9 = .ok (.dup, 1) := by decide +kernel
theorem d_Model_init_10 : decode b_Model_init 10 = .ok (.iconst 0, 1) := by decide +kernel
theorem d_Model_init_11 : decode b_Model_init 11 = .ok (.sipush 309, 3) := by decide +kernel
theorem d_Model_init_14 : decode b_Model_init 14 = .ok (.iastore, 1) := by decide +kernel
theorem d_Model_init_15 : decode b_Model_init 15 = .ok (.dup, 1) := by decide +kernel
theorem d_Model_init_16 : decode b_Model_init 16 = .ok (.iconst 1, 1) := by decide +kernel
theorem d_Model_init_17 : decode b_Model_init 17 = .ok (.bipush 71, 2) := by decide +kernel
theorem d_Model_init_19 : decode b_Model_init 19 = .ok (.iastore, 1) := by decide +kernel
theorem d_Model_init_20 : decode b_Model_init 20 = .ok (.dup, 1) := by decide +kernel
theorem d_Model_init_21 : decode b_Model_init 21 = .ok (.iconst 2, 1) := by decide +kernel
theorem d_Model_init_22 : decode b_Model_init 22 = .ok (.bipush 23, 2) := by decide +kernel
theorem d_Model_init_24 : decode b_Model_init 24 = .ok (.iastore, 1) := by decide +kernel
theorem d_Model_init_25 : decode b_Model_init 25 = .ok (.dup, 1) := by decide +kernel
theorem d_Model_init_26 : decode b_Model_init 26 = .ok (.iconst 3, 1) := by decide +kernel
theorem d_Model_init_27 : decode b_Model_init 27 = .ok (.bipush 24, 2) := by decide +kernel
theorem d_Model_init_29 : decode b_Model_init 29 = .ok (.iastore, 1) := by decide +kernel
theorem d_Model_init_30 : decode b_Model_init 30 = .ok (.dup, 1) := by decide +kernel
theorem d_Model_init_31 : decode b_Model_init 31 = .ok (.iconst 4, 1) := by decide +kernel
theorem d_Model_init_32 : decode b_Model_init 32 = .ok (.bipush 27, 2) := by decide +kernel
theorem d_Model_init_34 : decode b_Model_init 34 = .ok (.iastore, 1) := by decide +kernel
theorem d_Model_init_35 : decode b_Model_init 35 = .ok (.dup, 1) := by decide +kernel
theorem d_Model_init_36 : decode b_Model_init 36 = .ok (.iconst 5, 1) := by decide +kernel
theorem d_Model_init_37 : decode b_Model_init 37 = .ok (.bipush 28, 2) := by decide +kernel
theorem d_Model_init_39 : decode b_Model_init 39 = .ok (.iastore, 1) := by decide +kernel
theorem d_Model_init_40 : decode b_Model_init 40 = .ok (.dup, 1) := by decide +kernel
theorem d_Model_init_41 : decode b_Model_init 41 = .ok (.bipush 6, 2) := by decide +kernel
theorem d_Model_init_43 : decode b_Model_init 43 = .ok (.bipush 30, 2) := by decide +kernel
theorem d_Model_init_45 : decode b_Model_init 45 = .ok (.iastore, 1) := by decide +kernel
theorem d_Model_init_46 : decode b_Model_init 46 = .ok (.dup, 1) := by decide +kernel
theorem d_Model_init_47 : decode b_Model_init 47 = .ok (.bipush 7, 2) := by decide +kernel
theorem d_Model_init_49 : decode b_Model_init 49 = .ok (.bipush 31, 2) := by decide +kernel
theorem d_Model_init_51 : decode b_Model_init 51 = .ok (.iastore, 1) := by decide +kernel
theorem d_Model_init_52 : decode b_Model_init 52 = .ok (.dup, 1) := by decide +kernel
theorem d_Model_init_53 : decode b_Model_init 53 = .ok (.bipush 8, 2) := by decide +kernel
theorem d_Model_init_55 : decode b_Model_init 55 = .ok (.bipush 51, 2) := by decide +kernel
theorem d_Model_init_57 : decode b_Model_init 57 = .ok (.iastore, 1) := by decide +kernel
theorem d_Model_init_58 : decode b_Model_init 58 = .ok (.dup, 1) := by decide +kernel
theorem d_Model_init_59 : decode b_Model_init 59 = .ok (.bipush 9, 2) := by decide +kernel
theorem d_Model_init_61 : decode b_Model_init 61 = .ok (.bipush 52, 2) := by decide +kernel
theorem d_Model_init_63 : decode b_Model_init 63 = .ok (.iastore, 1) := by decide +kernel
theorem d_Model_init_64 : decode b_Model_init 64 = .ok (.dup, 1) := by decide +kernel
theorem d_Model_init_65 : decode b_Model_init 65 = .ok (.bipush 10, 2) := by decide +kernel
theorem d_Model_init_67 : decode b_Model_init 67 = .ok (.bipush 39, 2) := by decide +kernel
theorem d_Model_init_69 : decode b_Model_init 69 = .ok (.iastore, 1) := by decide +kernel
theorem d_Model_init_70 : decode b_Model_init 70 = .ok (.dup, 1) := by decide +kernel
theorem d_Model_init_71 : decode b_Model_init 71 = .ok (.bipush 11, 2) := by decide +kernel
theorem d_Model_init_73 : decode b_Model_init 73 = .ok (.bipush 40, 2) := by decide +kernel
theorem d_Model_init_75 : decode b_Model_init 75 = .ok (.iastore, 1) := by decide +kernel
theorem d_Model_init_76 : decode b_Model_init 76 = .ok (.dup, 1) := by decide +kernel
theorem d_Model_init_77 : decode b_Model_init 77 = .ok (.bipush 12, 2) := by decide +kernel
theorem d_Model_init_79 : decode b_Model_init 79 = .ok (.bipush 72, 2) := by decide +kernel
theorem d_Model_init_81 : decode b_Model_init 81 = .ok (.iastore, 1) := by decide +kernel
theorem d_Model_init_82 : decode b_Model_init 82 = .ok (.dup, 1) := by decide +kernel
theorem d_Model_init_83 : decode b_Model_init 83 = .ok (.bipush 13, 2) := by decide +kernel
theorem d_Model_init_85 : decode b_Model_init 85 = .ok (.bipush 67, 2) := by decide +kernel
theorem d_Model_init_87 : decode b_Model_init 87 = .ok (.iastore, 1) := by decide +kernel
theorem d_Model_init_88 : decode b_Model_init 88 = .ok (.dup, 1) := by decide +kernel
theorem d_Model_init_89 : decode b_Model_init 89 = .ok (.bipush 14, 2) := by decide +kernel
theorem d_Model_init_91 : decode b_Model_init 91 = .ok (.bipush 116, 2) := by decide +kernel
theorem d_Model_init_93 : decode b_Model_init 93 = .ok (.iastore, 1) := by decide +kernel
theorem d_Model_init_94 : decode b_Model_init 94 = .ok (.dup, 1) := by decide +kernel
theorem d_Model_init_95 : decode b_Model_init 95 = .ok (.bipush 15, 2) := by decide +kernel
theorem d_Model_init_97 : decode b_Model_init 97 = .ok (.bipush 117, 2) := by decide +kernel
theorem d_Model_init_99 : decode b_Model_init 99 = .ok (.iastore, 1) := by decide +kernel
theorem d_Model_init_100 : decode b_Model_init 100 = .ok (.dup, 1) := by decide +kernel
theorem d_Model_init_101 : decode b_Model_init 101 = .ok (.bipush 16, 2) := by decide +kernel
theorem d_Model_init_103 : decode b_Model_init 103 = .ok (.bipush 106, 2) := by decide +kernel
theorem d_Model_init_105 : decode b_Model_init 105 = .ok (.iastore, 1) := by decide +kernel
theorem d_Model_init_106 : decode b_Model_init 106 = .ok (.dup, 1) := by decide +kernel
theorem d_Model_init_107 : decode b_Model_init 107 = .ok (.bipush 17, 2) := by decide +kernel
theorem d_Model_init_109 : decode b_Model_init 109 = .ok (.bipush 107, 2) := by decide +kernel
theorem d_Model_init_111 : decode b_Model_init 111 = .ok (.iastore, 1) := by decide +kernel
theorem d_Model_init_112 : decode b_Model_init 112 = .ok (.dup, 1) := by decide +kernel
theorem d_Model_init_113 : decode b_Model_init 113 = .ok (.bipush 18, 2) := by decide +kernel
theorem d_Model_init_115 : decode b_Model_init 115 = .ok (.sipush 167, 3) := by decide +kernel
theorem d_Model_init_118 : decode b_Model_init 118 = .ok (.iastore, 1) := by decide +kernel
theorem d_Model_init_119 : decode b_Model_init 119 = .ok (.dup, 1) := by decide +kernel
theorem d_Model_init_120 : decode b_Model_init 120 = .ok (.bipush 19, 2) := by decide +kernel
theorem d_Model_init_122 : decode b_Model_init 122 = .ok (.sipush 140, 3) := by decide +kernel
theorem d_Model_init_125 : decode b_Model_init 125 = .ok (.iastore, 1) := by decide +kernel
theorem d_Model_init_126 : decode b_Model_init 126 = .ok (.dup, 1) := by decide +kernel
theorem d_Model_init_127 : decode b_Model_init 127 = .ok (.bipush 20, 2) := by decide +kernel
theorem d_Model_init_129 : decode b_Model_init 129 = .ok (.sipush 136, 3) := by decide +kernel
theorem d_Model_init_132 : decode b_Model_init 132 = .ok (.iastore, 1) := by decide +kernel
theorem d_Model_init_133 : decode b_Model_init 133 = .ok (.dup, 1) := by decide +kernel
theorem d_Model_init_134 : decode b_Model_init 134 = .ok (.bipush 21, 2) := by decide +kernel
theorem d_Model_init_136 : decode b_Model_init 136 = .ok (.sipush 151, 3) := by decide +kernel
theorem d_Model_init_139 : decode b_Model_init 139 = .ok (.iastore, 1) := by decide +kernel
theorem d_Model_init_140 : decode b_Model_init 140 = .ok (.dup, 1) := by decide +kernel
theorem d_Model_init_141 : decode b_Model_init 141 = .ok (.bipush 22, 2) := by decide +kernel
theorem d_Model_init_143 : decode b_Model_init 143 = .ok (.sipush 131, 3) := by decide +kernel
theorem d_Model_init_146 : decode b_Model_init 146 = .ok (.iastore, 1) := by decide +kernel
theorem d_Model_init_147 : decode b_Model_init 147 = .ok (.dup, 1) := by decide +kernel
theorem d_Model_init_148 : decode b_Model_init 148 = .ok (.bipush 23, 2) := by decide +kernel
theorem d_Model_init_150 : decode b_Model_init 150 = .ok (.sipush 132, 3) := by decide +kernel
theorem d_Model_init_153 : decode b_Model_init 153 = .ok (.iastore, 1) := by decide +kernel
theorem d_Model_init_154 : decode b_Model_init 154 = .ok (.dup, 1) := by decide +kernel
theorem d_Model_init_155 : decode b_Model_init 155 = .ok (.bipush 24, 2) := by decide +kernel
theorem d_Model_init_157 : decode b_Model_init 157 = .ok (.sipush 168, 3) := by decide +kernel
theorem d_Model_init_160 : decode b_Model_init 160 = .ok (.iastore, 1) := by decide +kernel
theorem d_Model_init_161 : decode b_Model_init 161 = .ok (.dup, 1) := by decide +kernel
theorem d_Model_init_162 : decode b_Model_init 162 = .ok (.bipush 25, 2) := by decide +kernel
theorem d_Model_init_164 : decode b_Model_init 164 = .ok (.sipush 171, 3) := by decide +kernel
theorem d_Model_init_167 : decode b_Model_init 167 = .ok (.iastore, 1) := by decide +kernel
theorem d_Model_init_168 : decode b_Model_init 168 = .ok (.dup, 1) := by decide +kernel
theorem d_Model_init_169 : decode b_Model_init 169 = .ok (.bipush 26, 2) := by decide +kernel
theorem d_Model_init_171 : decode b_Model_init 171 = .ok (.sipush 147, 3) := by decide +kernel
theorem d_Model_init_174 : decode b_Model_init 174 = .ok (.iastore, 1) := by decide +kernel
theorem d_Model_init_175 : decode b_Model_init 175 = .ok (.dup, 1) := by decide +kernel
theorem d_Model_init_176 : decode b_Model_init 176 = .ok (.bipush 27, 2) := by decide +kernel
theorem d_Model_init_178 : decode b_Model_init 178 = .ok (.sipush 164, 3) := by decide +kernel
theorem d_Model_init_181 : decode b_Model_init 181 = .ok (.iastore, 1) := by decide +kernel
theorem d_Model_init_182 : decode b_Model_init 182 = .ok (.dup, 1) := by decide +kernel
theorem d_Model_init_183 : decode b_Model_init 183 = .ok (.bipush 28, 2) := by decide +kernel
theorem d_Model_init_185 : decode b_Model_init 185 = .ok (.sipush 152, 3) := by decide +kernel
theorem d_Model_init_188 : decode b_Model_init 188 = .ok (.iastore, 1) := by decide +kernel
theorem d_Model_init_189 : decode b_Model_init 189 = .ok (.dup, 1) := by decide +kernel
theorem d_Model_init_190 : decode b_Model_init 190 = .ok (.bipush 29, 2) := by decide +kernel
theorem d_Model_init_192 : decode b_Model_init 192 = .ok (.sipush 258, 3) := by decide +kernel
theorem d_Model_init_195 : decode b_Model_init 195 = .ok (.iastore, 1) := by decide +kernel
theorem d_Model_init_196 : decode b_Model_init 196 = .ok (.dup, 1) := by decide +kernel
theorem d_Model_init_197 : decode b_Model_init 197 = .ok (.bipush 30, 2) := by decide +kernel
theorem d_Model_init_199 : decode b_Model_init 199 = .ok (.sipush 259, 3) := by decide +kernel
theorem d_Model_init_202 : decode b_Model_init 202 = .ok (.iastore, 1) := by decide +kernel
theorem d_Model_init_203 : decode b_Model_init 203 = .ok (.dup, 1) := by decide +kernel
theorem d_Model_init_204 : decode b_Model_init 204 = .ok (.bipush 31, 2) := by decide +kernel
theorem d_Model_init_206 : decode b_Model_init 206 = .ok (.sipush 282, 3) := by decide +kernel
theorem d_Model_init_209 : decode b_Model_init 209 = .ok (.iastore, 1) := by decide +kernel
theorem d_Model_init_210 : decode b_Model_init 210 = .ok (.dup, 1) := by decide +kernel
theorem d_Model_init_211 : decode b_Model_init 211 = .ok (.bipush 32, 2) := by decide +kernel
theorem d_Model_init_213 : decode b_Model_init 213 = .ok (.sipush 283, 3) := by decide +kernel
theorem d_Model_init_216 : decode b_Model_init 216 = .ok (.iastore, 1) := by decide +kernel
theorem d_Model_init_217 : decode b_Model_init 217 = .ok (.dup, 1) := by decide +kernel
theorem d_Model_init_218 : decode b_Model_init 218 = .ok (.bipush 33, 2) := by decide +kernel
theorem d_Model_init_220 : decode b_Model_init 220 = .ok (.sipush 274, 3) := by decide +kernel
theorem d_Model_init_223 : decode b_Model_init 223 = .ok (.iastore, 1) := by decide +kernel
theorem d_Model_init_224 : decode b_Model_init 224 = .ok (.dup, 1) := by decide +kernel
theorem d_Model_init_225 : decode b_Model_init 225 = .ok (.bipush 34, 2) := by decide +kernel
theorem d_Model_init_227 : decode b_Model_init 227 = .ok (.sipush 275, 3) := by decide +kernel
theorem d_Model_init_230 : decode b_Model_init 230 = .ok (.iastore, 1) := by decide +kernel
theorem d_Model_init_231 : decode b_Model_init 231 = .ok (.dup, 1) := by decide +kernel
theorem d_Model_init_232 : decode b_Model_init 232 = .ok (.bipush 35, 2) := by decide +kernel
theorem d_Model_init_234 : decode b_Model_init 234 = .ok (.sipush 276, 3) := by decide +kernel
theorem d_Model_init_237 : decode b_Model_init 237 = .ok (.iastore, 1) := by decide +kernel
theorem d_Model_init_238 : decode b_Model_init 238 = .ok (.dup, 1) := by decide +kernel
theorem d_Model_init_239 : decode b_Model_init 239 = .ok (.bipush 36, 2) := by decide +kernel
theorem d_Model_init_241 : decode b_Model_init 241 = .ok (.sipush 277, 3) := by decide +kernel
theorem d_Model_init_244 : decode b_Model_init 244 = .ok (.iastore, 1) := by decide +kernel
theorem d_Model_init_245 : decode b_Model_init 245 = .ok (.dup, 1) := by decide +kernel
theorem d_Model_init_246 : decode b_Model_init 246 = .ok (.bipush 37, 2) := by decide +kernel
theorem d_Model_init_248 : decode b_Model_init 248 = .ok (.sipush 278, 3) := by decide +kernel
theorem d_Model_init_251 : decode b_Model_init 251 = .ok (.iastore, 1) := by decide +kernel
theorem d_Model_init_252 : decode b_Model_init 252 = .ok (.dup, 1) := by decide +kernel
theorem d_Model_init_253 : decode b_Model_init 253 = .ok (.bipush 38, 2) := by decide +kernel
theorem d_Model_init_255 : decode b_Model_init 255 = .ok (.sipush 279, 3) := by decide +kernel
theorem d_Model_init_258 : decode b_Model_init 258 = .ok (.iastore, 1) := by decide +kernel
theorem d_Model_init_259 : decode b_Model_init 259 = .ok (.dup, 1) := by decide +kernel
theorem d_Model_init_260 : decode b_Model_init 260 = .ok (.bipush 39, 2) := by decide +kernel
theorem d_Model_init_262 : decode b_Model_init 262 = .ok (.sipush 296, 3) := by decide +kernel
theorem d_Model_init_265 : decode b_Model_init 265 = .ok (.iastore, 1) := by decide +kernel
theorem d_Model_init_266 : decode b_Model_init 266 = .ok (.dup, 1) := by decide +kernel
theorem d_Model_init_267 : decode b_Model_init 267 = .ok (.bipush 40, 2) := by decide +kernel
theorem d_Model_init_269 : decode b_Model_init 269 = .ok (.sipush 297, 3) := by decide +kernel
theorem d_Model_init_272 : decode b_Model_init 272 = .ok (.iastore, 1) := by decide +kernel
theorem d_Model_init_273 : decode b_Model_init 273 = .ok (.dup, 1) := by decide +kernel
theorem d_Model_init_274 : decode b_Model_init 274 = .ok (.bipush 41, 2) := by decide +kernel
theorem d_Model_init_276 : decode b_Model_init 276 = .ok (.sipush 298, 3) := by decide +kernel
theorem d_Model_init_279 : decode b_Model_init 279 = .ok (.iastore, 1) := by decide +kernel
theorem d_Model_init_280 : decode b_Model_init 280 = .ok (.dup, 1) := by decide +kernel
theorem d_Model_init_281 : decode b_Model_init 281 = .ok (.bipush 42, 2) := by decide +kernel
theorem d_Model_init_283 : decode b_Model_init 283 = .ok (.sipush 299, 3) := by decide +kernel
theorem d_Model_init_286 : decode b_Model_init 286 = .ok (.iastore, 1) := by decide +kernel
theorem d_Model_init_287 : decode b_Model_init 287 = .ok (.dup, 1) := by decide +kernel
theorem d_Model_init_288 : decode b_Model_init 288 = .ok (.bipush 43, 2) := by decide +kernel
theorem d_Model_init_290 : decode b_Model_init 290 = .ok (.sipush 300, 3) := by decide +kernel
theorem d_Model_init_293 : decode b_Model_init 293 = .ok (.iastore, 1) := by decide +kernel
theorem d_Model_init_294 : decode b_Model_init 294 = .ok (.dup, 1) := by decide +kernel
theorem d_Model_init_295 : decode b_Model_init 295 = .ok (.bipush 44, 2) := by decide +kernel
theorem d_Model_init_297 : decode b_Model_init 297 = .ok (.sipush 301, 3) := by decide +kernel
theorem d_Model_init_300 : decode b_Model_init 300 = .ok (.iastore, 1) := by decide +kernel
theorem d_Model_init_301 : decode b_Model_init 301 = .ok (.dup, 1) := by decide +kernel
theorem d_Model_init_302 : decode b_Model_init 302 = .ok (.bipush 45, 2) := by decide +kernel
theorem d_Model_init_304 : decode b_Model_init 304 = .ok (.sipush 260, 3) := by decide +kernel
theorem d_Model_init_307 : decode b_Model_init 307 = .ok (.iastore, 1) := by decide +kernel
theorem d_Model_init_308 : decode b_Model_init 308 = .ok (.dup, 1) := by decide +kernel
theorem d_Model_init_309 : decode b_Model_init 309 = .ok (.bipush 46, 2) := by decide +kernel
theorem d_Model_init_311 : decode b_Model_init 311 = .ok (.sipush 261, 3) := by decide +kernel
theorem d_Model_init_314 : decode b_Model_init 314 = .ok (.iastore, 1) := by decide +kernel
theorem d_Model_init_315 : decode b_Model_init 315 = .ok (.dup, 1) := by decide +kernel
theorem d_Model_init_316 : decode b_Model_init 316 = .ok (.bipush 47, 2) := by decide +kernel
theorem d_Model_init_318 : decode b_Model_init 318 = .ok (.sipush 266, 3) := by decide +kernel
theorem d_Model_init_321 : decode b_Model_init 321 = .ok (.iastore, 1) := by decide +kernel
theorem d_Model_init_322 : decode b_Model_init 322 = .ok (.dup, 1) := by decide +kernel
theorem d_Model_init_323 : decode b_Model_init 323 = .ok (.bipush 48, 2) := by decide +kernel
theorem d_Model_init_325 : decode b_Model_init 325 = .ok (.sipush 267, 3) := by decide +kernel
theorem d_Model_init_328 : decode b_Model_init 328 = .ok (.iastore, 1) := by decide +kernel
theorem d_Model_init_329 : decode b_Model_init 329 = .ok (.dup, 1) := by decide +kernel
theorem d_Model_init_330 : decode b_Model_init 330 = .ok (.bipush 49, 2) := by decide +kernel
theorem d_Model_init_332 : decode b_Model_init 332 = .ok (.sipush 338, 3) := by decide +kernel
theorem d_Model_init_335 : decode b_Model_init 335 = .ok (.iastore, 1) := by decide +kernel
theorem d_Model_init_336 : decode b_Model_init 336 = .ok (.dup, 1) := by decide +kernel
theorem d_Model_init_337 : decode b_Model_init 337 = .ok (.bipush 50, 2) := by decide +kernel
theorem d_Model_init_339 : decode b_Model_init 339 = .ok (.sipush 339, 3) := by decide +kernel
theorem d_Model_init_342 : decode b_Model_init 342 = .ok (.iastore, 1) := by decide +kernel
theorem d_Model_init_343 : decode b_Model_init 343 = .ok (.dup, 1) := by decide +kernel
theorem d_Model_init_344 : decode b_Model_init 344 = .ok (.bipush 51, 2) := by decide +kernel
theorem d_Model_init_346 : decode b_Model_init 346 = .ok (.sipush 340, 3) := by decide +kernel
theorem d_Model_init_349 : decode b_Model_init 349 = .ok (.iastore, 1) := by decide +kernel
theorem d_Model_init_350 : decode b_Model_init 350 = .ok (.dup, 1) := by decide +kernel
theorem d_Model_init_351 : decode b_Model_init 351 = .ok (.bipush 52, 2) := by decide +kernel
theorem d_Model_init_353 : decode b_Model_init 353 = .ok (.sipush 341, 3) := by decide +kernel
theorem d_Model_init_356 : decode b_Model_init 356 = .ok (.iastore, 1) := by decide +kernel
theorem d_Model_init_357 : decode b_Model_init 357 = .ok (.dup, 1) := by decide +kernel
theorem d_Model_init_358 : decode b_Model_init 358 = .ok (.bipush 53, 2) := by decide +kernel
theorem d_Model_init_360 : decode b_Model_init 360 = .ok (.sipush 292, 3) := by decide +kernel
theorem d_Model_init_363 : decode b_Model_init 363 = .ok (.iastore, 1) := by decide +kernel
theorem d_Model_init_364 : decode b_Model_init 364 = .ok (.dup, 1) := by decide +kernel
theorem d_Model_init_365 : decode b_Model_init 365 = .ok (.bipush 54, 2) := by decide +kernel
theorem d_Model_init_367 : decode b_Model_init 367 = .ok (.sipush 293, 3) := by decide +kernel
theorem d_Model_init_370 : decode b_Model_init 370 = .ok (.iastore, 1) := by decide +kernel
theorem d_Model_init_371 : decode b_Model_init 371 = .ok (.dup, 1) := by decide +kernel
theorem d_Model_init_372 : decode b_Model_init 372 = .ok (.bipush 55, 2) := by decide +kernel
theorem d_Model_init_374 : decode b_Model_init 374 = .ok (.sipush 344, 3) := by decide +kernel
theorem d_Model_init_377 : decode b_Model_init 377 = .ok (.iastore, 1) := by decide +kernel
theorem d_Model_init_378 : decode b_Model_init 378 = .ok (.dup, 1) := by decide +kernel
theorem d_Model_init_379 : decode b_Model_init 379 = .ok (.bipush 56, 2) := by decide +kernel
theorem d_Model_init_381 : decode b_Model_init 381 = .ok (.sipush 345, 3) := by decide +kernel
theorem d_Model_init_384 : decode b_Model_init 384 = .ok (.iastore, 1) := by decide +kernel
theorem d_Model_init_385 : decode b_Model_init 385 = .ok (.dup, 1) := by decide +kernel
theorem d_Model_init_386 : decode b_Model_init 386 = .ok (.bipush 57, 2) := by decide +kernel
theorem d_Model_init_388 : decode b_Model_init 388 = .ok (.sipush 346, 3) := by decide +kernel
theorem d_Model_init_391 : decode b_Model_init 391 = .ok (.iastore, 1) := by decide +kernel
theorem d_Model_init_392 : decode b_Model_init 392 = .ok (.dup, 1) := by decide +kernel
theorem d_Model_init_393 : decode b_Model_init 393 = .ok (.bipush 58, 2) := by decide +kernel
theorem d_Model_init_395 : decode b_Model_init 395 = .ok (.sipush 347, 3) := by decide +kernel
theorem d_Model_init_398 : decode b_Model_init 398 = .ok (.iastore, 1) := by decide +kernel
theorem d_Model_init_399 : decode b_Model_init 399 = .ok (.dup, 1) := by decide +kernel
theorem d_Model_init_400 : decode b_Model_init 400 = .ok (.bipush 59, 2) := by decide +kernel
theorem d_Model_init_402 : decode b_Model_init 402 = .ok (.sipush 330, 3) := by decide +kernel
theorem d_Model_init_405 : decode b_Model_init 405 = .ok (.iastore, 1) := by decide +kernel
theorem d_Model_init_406 : decode b_Model_init 406 = .ok (.dup, 1) := by decide +kernel
theorem d_Model_init_407 : decode b_Model_init 407 = .ok (.bipush 60, 2) := by decide +kernel
theorem d_Model_init_409 : decode b_Model_init 409 = .ok (.sipush 331, 3) := by decide +kernel
theorem d_Model_init_412 : decode b_Model_init 412 = .ok (.iastore, 1) := by decide +kernel
theorem d_Model_init_413 : decode b_Model_init 413 = .ok (.dup, 1) := by decide +kernel
theorem d_Model_init_414 : decode b_Model_init 414 = .ok (.bipush 61, 2) := by decide +kernel
theorem d_Model_init_416 : decode b_Model_init 416 = .ok (.sipush 306, 3) := by decide +kernel
theorem d_Model_init_419 : decode b_Model_init 419 = .ok (.iastore, 1) := by decide +kernel
theorem d_Model_init_420 : decode b_Model_init 420 = .ok (.dup, 1) := by decide +kernel
theorem d_Model_init_421 : decode b_Model_init 421 = .ok (.bipush 62, 2) := by decide +kernel
theorem d_Model_init_423 : decode b_Model_init 423 = .ok (.sipush 307, 3) := by decide +kernel
theorem d_Model_init_426 : decode b_Model_init 426 = .ok (.iastore, 1) := by decide +kernel
theorem d_Model_init_427 : decode b_Model_init 427 = .ok (.dup, 1) := by decide +kernel
theorem d_Model_init_428 : decode b_Model_init 428 = .ok (.bipush 63, 2) := by decide +kernel
theorem d_Model_init_430 : decode b_Model_init 430 = .ok (.sipush 308, 3) := by decide +kernel
theorem d_Model_init_433 : decode b_Model_init 433 = .ok (.iastore, 1) := by decide +kernel
theorem d_Model_init_434 : decode b_Model_init 434 = .ok (.putfield 7, 3) := by decide +kernel
theorem d_Model_init_437 : decode b_Model_init 437 = .ok (.aload_n 0, 1) := by decide +kernel
theorem d_Model_init_438 : decode b_Model_init 438 = .ok (.bipush 64, 2) := by decide +kernel
theorem d_Model_init_440 : decode b_Model_init 440 = .ok (.newarray .int, 2) := by decide +kernel
theorem d_Model_init_442 : decode b_Model_init 442 = .ok (.dup, 1) := by decide +kernel
theorem d_Model_init_443 : decode b_Model_init 443 = .ok (.iconst 0, 1) := by decide +kernel
theorem d_Model_init_444 : decode b_Model_init 444 = .ok (.sipush 1079, 3) := by decide +kernel
theorem d_Model_init_447 : decode b_Model_init 447 = .ok (.iastore, 1) := by decide +kernel
theorem d_Model_init_448 : decode b_Model_init 448 = .ok (.dup, 1) := by decide +kernel
theorem d_Model_init_449 : decode b_Model_init 449 = .ok (.iconst 1, 1) := by decide +kernel
theorem d_Model_init_450 : decode b_Model_init 450 = .ok (.bipush 10, 2) := by decide +kernel
theorem d_Model_init_452 : decode b_Model_init 452 = .ok (.iastore, 1) := by decide +kernel
theorem d_Model_init_453 : decode b_Model_init 453 = .ok (.dup, 1) := by decide +kernel
theorem d_Model_init_454 : decode b_Model_init 454 = .ok (.iconst 2, 1) := by decide +kernel
theorem d_Model_init_455 : decode b_Model_init 455 = .ok (.bipush 7, 2) := by decide +kernel
theorem d_Model_init_457 : decode b_Model_init 457 = .ok (.iastore, 1) := by decide +kernel
theorem d_Model_init_458 : decode b_Model_init 458 = .ok (.dup, 1) := by decide +kernel
theorem d_Model_init_459 : decode b_Model_init 459 = .ok (.iconst 3, 1) := by decide +kernel
theorem d_Model_init_460 : decode b_Model_init 460 = .ok (.bipush 6, 2) := by decide +kernel
theorem d_Model_init_462 : decode b_Model_init 462 = .ok (.iastore, 1) := by decide +kernel
theorem d_Model_init_463 : decode b_Model_init 463 = .ok (.dup, 1) := by decide +kernel
theorem d_Model_init_464 : decode b_Model_init 464 = .ok (.iconst 4, 1) := by decide +kernel
theorem d_Model_init_465 : decode b_Model_init 465 = .ok (.bipush 11, 2) := by decide +kernel
theorem d_Model_init_467 : decode b_Model_init 467 = .ok (.iastore, 1) := by decide +kernel
theorem d_Model_init_468 : decode b_Model_init 468 = .ok (.dup, 1) := by decide +kernel
theorem d_Model_init_469 : decode b_Model_init 469 = .ok (.iconst 5, 1) := by decide +kernel
theorem d_Model_init_470 : decode b_Model_init 470 = .ok (.bipush 19, 2) := by decide +kernel
theorem d_Model_init_472 : decode b_Model_init 472 = .ok (.iastore, 1) := by decide +kernel
theorem d_Model_init_473 : decode b_Model_init 473 = .ok (.dup, 1) := by decide +kernel
theorem d_Model_init_474 : decode b_Model_init 474 = .ok (.bipush 6, 2) := by decide +kernel
theorem d_Model_init_476 : decode b_Model_init 476 = .ok (.bipush 18, 2) := by decide +kernel
theorem d_Model_init_478 : decode b_Model_init 478 = .ok (.iastore, 1) := by decide +kernel
theorem d_Model_init_479 : decode b_Model_init 479 = .ok (.dup, 1) := by decide +kernel
theorem d_Model_init_480 : decode b_Model_init 480 = .ok (.bipush 7, 2) := by decide +kernel
theorem d_Model_init_482 : decode b_Model_init 482 = .ok (.bipush 35, 2) := by decide +kernel
theorem d_Model_init_484 : decode b_Model_init 484 = .ok (.iastore, 1) := by decide +kernel
theorem d_Model_init_485 : decode b_Model_init 485 = .ok (.dup, 1) := by decide +kernel
theorem d_Model_init_486 : decode b_Model_init 486 = .ok (.bipush 8, 2) := by decide +kernel
theorem d_Model_init_488 : decode b_Model_init 488 = .ok (.bipush 69, 2) := by decide +kernel
theorem d_Model_init_490 : decode b_Model_init 490 = .ok (.iastore, 1) := by decide +kernel
theorem d_Model_init_491 : decode b_Model_init 491 = .ok (.dup, 1) := by decide +kernel
theorem d_Model_init_492 : decode b_Model_init 492 = .ok (.bipush 9, 2) := by decide +kernel
theorem d_Model_init_494 : decode b_Model_init 494 = .ok (.bipush 68, 2) := by decide +kernel
theorem d_Model_init_496 : decode b_Model_init 496 = .ok (.iastore, 1) := by decide +kernel
theorem d_Model_init_497 : decode b_Model_init 497 = .ok (.dup, 1) := by decide +kernel
theorem d_Model_init_498 : decode b_Model_init 498 = .ok (.bipush 10, 2) := by decide +kernel
theorem d_Model_init_500 : decode b_Model_init 500 = .ok (.sipush 132, 3) := by decide +kernel
theorem d_Model_init_503 : decode b_Model_init 503 = .ok (.iastore, 1) := by decide +kernel
theorem d_Model_init_504 : decode b_Model_init 504 = .ok (.dup, 1) := by decide +kernel
theorem d_Model_init_505 : decode b_Model_init 505 = .ok (.bipush 11, 2) := by decide +kernel
theorem d_Model_init_507 : decode b_Model_init 507 = .ok (.sipush 133, 3) := by decide +kernel
theorem d_Model_init_510 : decode b_Model_init 510 = .ok (.iastore, 1) := by decide +kernel
theorem d_Model_init_511 : decode b_Model_init 511 = .ok (.dup, 1) := by decide +kernel
theorem d_Model_init_512 : decode b_Model_init 512 = .ok (.bipush 12, 2) := by decide +kernel
theorem d_Model_init_514 : decode b_Model_init 514 = .ok (.sipush 135, 3) := by decide +kernel
theorem d_Model_init_517 : decode b_Model_init 517 = .ok (.iastore, 1) := by decide +kernel
theorem d_Model_init_518 : decode b_Model_init 518 = .ok (.dup, 1) := by decide +kernel
theorem d_Model_init_519 : decode b_Model_init 519 = .ok (.bipush 13, 2) := by decide +kernel
theorem d_Model_init_521 : decode b_Model_init 521 = .ok (.sipush 260, 3) := by decide +kernel
theorem d_Model_init_524 : decode b_Model_init 524 = .ok (.iastore, 1) := by decide +kernel
theorem d_Model_init_525 : decode b_Model_init 525 = .ok (.dup, 1) := by decide +kernel
theorem d_Model_init_526 : decode b_Model_init 526 = .ok (.bipush 14, 2) := by decide +kernel
theorem d_Model_init_528 : decode b_Model_init 528 = .ok (.sipush 263, 3) := by decide +kernel
theorem d_Model_init_531 : decode b_Model_init 531 = .ok (.iastore, 1) := by decide +kernel
theorem d_Model_init_532 : decode b_Model_init 532 = .ok (.dup, 1) := by decide +kernel
theorem d_Model_init_533 : decode b_Model_init 533 = .ok (.bipush 15, 2) := by decide +kernel
theorem d_Model_init_535 : decode b_Model_init 535 = .ok (.sipush 536, 3) := by decide +kernel
theorem d_Model_init_538 : decode b_Model_init 538 = .ok (.iastore, 1) := by decide +kernel
theorem d_Model_init_539 : decode b_Model_init 539 = .ok (.dup, 1) := by decide +kernel
theorem d_Model_init_540 : decode b_Model_init 540 = .ok (.bipush 16, 2) := by decide +kernel
theorem d_Model_init_542 : decode b_Model_init 542 = .ok (.sipush 1047, 3) := by decide +kernel
theorem d_Model_init_545 : decode b_Model_init 545 = .ok (.iastore, 1) := by decide +kernel
theorem d_Model_init_546 : decode b_Model_init 546 = .ok (.dup, 1) := by decide +kernel
theorem d_Model_init_547 : decode b_Model_init 547 = .ok (.bipush 17, 2) := by decide +kernel
theorem d_Model_init_549 : decode b_Model_init 549 = .ok (.sipush 1048, 3) := by decide +kernel
theorem d_Model_init_552 : decode b_Model_init 552 = .ok (.iastore, 1) := by decide +kernel
theorem d_Model_init_553 : decode b_Model_init 553 = .ok (.dup, 1) := by decide +kernel
theorem d_Model_init_554 : decode b_Model_init 554 = .ok (.bipush 18, 2) := by decide +kernel
theorem d_Model_init_556 : decode b_Model_init 556 = .ok (.sipush 1032, 3) := by decide +kernel
theorem d_Model_init_559 : decode b_Model_init 559 = .ok (.iastore, 1) := by decide +kernel
theorem d_Model_init_560 : decode b_Model_init 560 = .ok (.dup, 1) := by decide +kernel
theorem d_Model_init_561 : decode b_Model_init 561 = .ok (.bipush 19, 2) := by decide +kernel
theorem d_Model_init_563 : decode b_Model_init 563 = .ok (.sipush 2151, 3) := by decide +kernel
theorem d_Model_init_566 : decode b_Model_init 566 = .ok (.iastore, 1) := by decide +kernel
theorem d_Model_init_567 : decode b_Model_init 567 = .ok (.dup, 1) := by decide +kernel
theorem d_Model_init_568 : decode b_Model_init 568 = .ok (.bipush 20, 2) := by decide +kernel
theorem d_Model_init_570 : decode b_Model_init 570 = .ok (.sipush 2152, 3) := by decide +kernel
theorem d_Model_init_573 : decode b_Model_init 573 = .ok (.iastore, 1) := by decide +kernel
theorem d_Model_init_574 : decode b_Model_init 574 = .ok (.dup, 1) := by decide +kernel
theorem d_Model_init_575 : decode b_Model_init 575 = .ok (.bipush 21, 2) := by decide +kernel
theorem d_Model_init_577 : decode b_Model_init 577 = .ok (.sipush 2156, 3) := by decide +kernel
theorem d_Model_init_580 : decode b_Model_init 580 = .ok (.iastore, 1) := by decide +kernel
theorem d_Model_init_581 : decode b_Model_init 581 = .ok (.dup, 1) := by decide +kernel
theorem d_Model_init_582 : decode b_Model_init 582 = .ok (.bipush 22, 2) := by decide +kernel
theorem d_Model_init_584 : decode b_Model_init 584 = .ok (.sipush 2103, 3) := by decide +kernel
theorem d_Model_init_587 : decode b_Model_init 587 = .ok (.iastore, 1) := by decide +kernel
theorem d_Model_init_588 : decode b_Model_init 588 = .ok (.dup, 1) := by decide +kernel
theorem d_Model_init_589 : decode b_Model_init 589 = .ok (.bipush 23, 2) := by decide +kernel
theorem d_Model_init_591 : decode b_Model_init 591 = .ok (.sipush 2088, 3) := by decide +kernel
theorem d_Model_init_594 : decode b_Model_init 594 = .ok (.iastore, 1) := by decide +kernel
theorem d_Model_init_595 : decode b_Model_init 595 = .ok (.dup, 1) := by decide +kernel
theorem d_Model_init_596 : decode b_Model_init 596 = .ok (.bipush 24, 2) := by decide +kernel
theorem d_Model_init_598 : decode b_Model_init 598 = .ok (.sipush 2071, 3) := by decide +kernel
theorem d_Model_init_601 : decode b_Model_init 601 = .ok (.iastore, 1) := by decide +kernel
theorem d_Model_init_602 : decode b_Model_init 602 = .ok (.dup, 1) := by decide +kernel
theorem d_Model_init_603 : decode b_Model_init 603 = .ok (.bipush 25, 2) := by decide +kernel
theorem d_Model_init_605 : decode b_Model_init 605 = .ok (.sipush 2072, 3) := by decide +kernel
theorem d_Model_init_608 : decode b_Model_init 608 = .ok (.iastore, 1) := by decide +kernel
theorem d_Model_init_609 : decode b_Model_init 609 = .ok (.dup, 1) := by decide +kernel
theorem d_Model_init_610 : decode b_Model_init 610 = .ok (.bipush 26, 2) := by decide +kernel
theorem d_Model_init_612 : decode b_Model_init 612 = .ok (.sipush 4298, 3) := by decide +kernel
theorem d_Model_init_615 : decode b_Model_init 615 = .ok (.iastore, 1) := by decide +kernel
theorem d_Model_init_616 : decode b_Model_init 616 = .ok (.dup, 1) := by decide +kernel
theorem d_Model_init_617 : decode b_Model_init 617 = .ok (.bipush 27, 2) := by decide +kernel
theorem d_Model_init_619 : decode b_Model_init 619 = .ok (.sipush 4299, 3) := by decide +kernel
theorem d_Model_init_622 : decode b_Model_init 622 = .ok (.iastore, 1) := by decide +kernel
theorem d_Model_init_623 : decode b_Model_init 623 = .ok (.dup, 1) := by decide +kernel
theorem d_Model_init_624 : decode b_Model_init 624 = .ok (.bipush 28, 2) := by decide +kernel
theorem d_Model_init_626 : decode b_Model_init 626 = .ok (.sipush 4300, 3) := by decide +kernel
theorem d_Model_init_629 : decode b_Model_init 629 = .ok (.iastore, 1) := by decide +kernel
theorem d_Model_init_630 : decode b_Model_init 630 = .ok (.dup, 1) := by decide +kernel
theorem d_Model_init_631 : decode b_Model_init 631 = .ok (.bipush 29, 2) := by decide +kernel
theorem d_Model_init_633 : decode b_Model_init 633 = .ok (.sipush 4301, 3) := by decide +kernel
theorem d_Model_init_636 : decode b_Model_init 636 = .ok (.iastore, 1) := by decide +kernel
theorem d_Model_init_637 : decode b_Model_init 637 = .ok (.dup, 1) := by decide +kernel
theorem d_Model_init_638 : decode b_Model_init 638 = .ok (.bipush 30, 2) := by decide +kernel
theorem d_Model_init_640 : decode b_Model_init 640 = .ok (.sipush 4200, 3) := by decide +kernel
theorem d_Model_init_643 : decode b_Model_init 643 = .ok (.iastore, 1) := by decide +kernel
theorem d_Model_init_644 : decode b_Model_init 644 = .ok (.dup, 1) := by decide +kernel
theorem d_Model_init_645 : decode b_Model_init 645 = .ok (.bipush 31, 2) := by decide +kernel
theorem d_Model_init_647 : decode b_Model_init 647 = .ok (.sipush 4201, 3) := by decide +kernel
theorem d_Model_init_650 : decode b_Model_init 650 = .ok (.iastore, 1) := by decide +kernel
theorem d_Model_init_651 : decode b_Model_init 651 = .ok (.dup, 1) := by decide +kernel
theorem d_Model_init_652 : decode b_Model_init 652 = .ok (.bipush 32, 2) := by decide +kernel
theorem d_Model_init_654 : decode b_Model_init 654 = .ok (.sipush 4202, 3) := by decide +kernel
theorem d_Model_init_657 : decode b_Model_init 657 = .ok (.iastore, 1) := by decide +kernel
theorem d_Model_init_658 : decode b_Model_init 658 = .ok (.dup, 1) := by decide +kernel
theorem d_Model_init_659 : decode b_Model_init 659 = .ok (.bipush 33, 2) := by decide +kernel
theorem d_Model_init_661 : decode b_Model_init 661 = .ok (.sipush 4203, 3) := by decide +kernel
theorem d_Model_init_664 : decode b_Model_init 664 = .ok (.iastore, 1) := by decide +kernel
theorem d_Model_init_665 : decode b_Model_init 665 = .ok (.dup, 1) := by decide +kernel
theorem d_Model_init_666 : decode b_Model_init 666 = .ok (.bipush 34, 2) := by decide +kernel
theorem d_Model_init_668 : decode b_Model_init 668 = .ok (.sipush 4306, 3) := by decide +kernel
theorem d_Model_init_671 : decode b_Model_init 671 = .ok (.iastore, 1) := by decide +kernel
theorem d_Model_init_672 : decode b_Model_init 672 = .ok (.dup, 1) := by decide +kernel
theorem d_Model_init_673 : decode b_Model_init 673 = .ok (.bipush 35, 2) := by decide +kernel
theorem d_Model_init_675 : decode b_Model_init 675 = .ok (.sipush 4307, 3) := by decide +kernel
theorem d_Model_init_678 : decode b_Model_init 678 = .ok (.iastore, 1) := by decide +kernel
theorem d_Model_init_679 : decode b_Model_init 679 = .ok (.dup, 1) := by decide +kernel
theorem d_Model_init_680 : decode b_Model_init 680 = .ok (.bipush 36, 2) := by decide +kernel
theorem d_Model_init_682 : decode b_Model_init 682 = .ok (.sipush 4308, 3) := by decide +kernel
theorem d_Model_init_685 : decode b_Model_init 685 = .ok (.iastore, 1) := by decide +kernel
theorem d_Model_init_686 : decode b_Model_init 686 = .ok (.dup, 1) := by decide +kernel
theorem d_Model_init_687 : decode b_Model_init 687 = .ok (.bipush 37, 2) := by decide +kernel
theorem d_Model_init_689 : decode b_Model_init 689 = .ok (.sipush 4309, 3) := by decide +kernel
theorem d_Model_init_692 : decode b_Model_init 692 = .ok (.iastore, 1) := by decide +kernel
theorem d_Model_init_693 : decode b_Model_init 693 = .ok (.dup, 1) := by decide +kernel
theorem d_Model_init_694 : decode b_Model_init 694 = .ok (.bipush 38, 2) := by decide +kernel
theorem d_Model_init_696 : decode b_Model_init 696 = .ok (.sipush 4310, 3) := by decide +kernel
theorem d_Model_init_699 : decode b_Model_init 699 = .ok (.iastore, 1) := by decide +kernel
theorem d_Model_init_700 : decode b_Model_init 700 = .ok (.dup, 1) := by decide +kernel
theorem d_Model_init_701 : decode b_Model_init 701 = .ok (.bipush 39, 2) := by decide +kernel
theorem d_Model_init_703 : decode b_Model_init 703 = .ok (.sipush 4311, 3) := by decide +kernel
theorem d_Model_init_706 : decode b_Model_init 706 = .ok (.iastore, 1) := by decide +kernel
theorem d_Model_init_707 : decode b_Model_init 707 = .ok (.dup, 1) := by decide +kernel
theorem d_Model_init_708 : decode b_Model_init 708 = .ok (.bipush 40, 2) := by decide +kernel
theorem d_Model_init_710 : decode b_Model_init 710 = .ok (.sipush 4204, 3) := by decide +kernel
theorem d_Model_init_713 : decode b_Model_init 713 = .ok (.iastore, 1) := by decide +kernel
theorem d_Model_init_714 : decode b_Model_init 714 = .ok (.dup, 1) := by decide +kernel
theorem d_Model_init_715 : decode b_Model_init 715 = .ok (.bipush 41, 2) := by decide +kernel
theorem d_Model_init_717 : decode b_Model_init 717 = .ok (.sipush 4205, 3) := by decide +kernel
theorem d_Model_init_720 : decode b_Model_init 720 = .ok (.iastore, 1) := by decide +kernel
theorem d_Model_init_721 : decode b_Model_init 721 = .ok (.dup, 1) := by decide +kernel
theorem d_Model_init_722 : decode b_Model_init 722 = .ok (.bipush 42, 2) := by decide +kernel
theorem d_Model_init_724 : decode b_Model_init 724 = .ok (.sipush 4314, 3) := by decide +kernel
theorem d_Model_init_727 : decode b_Model_init 727 = .ok (.iastore, 1) := by decide +kernel
theorem d_Model_init_728 : decode b_Model_init 728 = .ok (.dup, 1) := by decide +kernel
theorem d_Model_init_729 : decode b_Model_init 729 = .ok (.bipush 43, 2) := by decide +kernel
theorem d_Model_init_731 : decode b_Model_init 731 = .ok (.sipush 4315, 3) := by decide +kernel
theorem d_Model_init_734 : decode b_Model_init 734 = .ok (.iastore, 1) := by decide +kernel
theorem d_Model_init_735 : decode b_Model_init 735 = .ok (.dup, 1) := by decide +kernel
theorem d_Model_init_736 : decode b_Model_init 736 = .ok (.bipush 44, 2) := by decide +kernel
theorem d_Model_init_738 : decode b_Model_init 738 = .ok (.sipush 4180, 3) := by decide +kernel
theorem d_Model_init_741 : decode b_Model_init 741 = .ok (.iastore, 1) := by decide +kernel
theorem d_Model_init_742 : decode b_Model_init 742 = .ok (.dup, 1) := by decide +kernel
theorem d_Model_init_743 : decode b_Model_init 743 = .ok (.bipush 45, 2) := by decide +kernel
theorem d_Model_init_745 : decode b_Model_init 745 = .ok (.sipush 4181, 3) := by decide +kernel
theorem d_Model_init_748 : decode b_Model_init 748 = .ok (.iastore, 1) := by decide +kernel
theorem d_Model_init_749 : decode b_Model_init 749 = .ok (.dup, 1) := by decide +kernel
