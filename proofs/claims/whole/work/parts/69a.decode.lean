theorem d_Law_cell_0 : decode b_Law_cell 0 = .ok (.iload_n 1, 1) := by decide +kernel
theorem d_Law_cell_1 : decode b_Law_cell 1 = .ok (.aload_n 0, 1) := by decide +kernel
theorem d_Law_cell_2 : decode b_Law_cell 2 = .ok (.arraylength, 1) := by decide +kernel
theorem d_Law_cell_3 : decode b_Law_cell 3 = .ok (.if_icmp .ge 9, 3) := by decide +kernel
theorem d_Law_cell_6 : decode b_Law_cell 6 = .ok (.aload_n 0, 1) := by decide +kernel
theorem d_Law_cell_7 : decode b_Law_cell 7 = .ok (.iload_n 1, 1) := by decide +kernel
theorem d_Law_cell_8 : decode b_Law_cell 8 = .ok (.iaload, 1) := by decide +kernel
theorem d_Law_cell_9 : decode b_Law_cell 9 = .ok (.goto 4, 3) := by decide +kernel
theorem d_Law_cell_12 : decode b_Law_cell 12 = .ok (.iconst 0, 1) := by decide +kernel
theorem d_Law_cell_13 : decode b_Law_cell 13 = .ok (.ireturn, 1) := by decide +kernel
theorem d_Law_code_0 : decode b_Law_code 0 = .ok (.aload_n 1, 1) := by decide +kernel
theorem d_Law_code_1 : decode b_Law_code 1 = .ok (.iconst 0, 1) := by decide +kernel
theorem d_Law_code_2 : decode b_Law_code 2 = .ok (.aload_n 0, 1) := by decide +kernel
theorem d_Law_code_3 : decode b_Law_code 3 = .ok (.invokevirtual 7, 3) := by decide +kernel
theorem d_Law_code_6 : decode b_Law_code 6 = .ok (.i2l, 1) := by decide +kernel
theorem d_Law_code_7 : decode b_Law_code 7 = .ok (.lastore, 1) := by decide +kernel
theorem d_Law_code_8 : decode b_Law_code 8 = .ok (.goto 6, 3) := by decide +kernel
theorem d_Law_code_11 : decode b_Law_code 11 = .ok (.astore_n 2, 1) := by decide +kernel
theorem d_Law_code_12 : decode b_Law_code 12 = .ok (.iconst 1, 1) := by decide +kernel
theorem d_Law_code_13 : decode b_Law_code 13 = .ok (.ireturn, 1) := by decide +kernel
theorem d_Law_code_14 : decode b_Law_code 14 = .ok (.iconst 0, 1) := by decide +kernel
theorem d_Law_code_15 : decode b_Law_code 15 = .ok (.ireturn, 1) := by decide +kernel
theorem d_Law_close_0 : decode b_Law_close 0 = .ok (.aload_n 1, 1) := by decide +kernel
theorem d_Law_close_1 : decode b_Law_close 1 = .ok (.iconst 0, 1) := by decide +kernel
theorem d_Law_close_2 : decode b_Law_close 2 = .ok (.aload_n 0, 1) := by decide +kernel
theorem d_Law_close_3 : decode b_Law_close 3 = .ok (.invokevirtual 15, 3) := by decide +kernel
theorem d_Law_close_6 : decode b_Law_close 6 = .ok (.i2l, 1) := by decide +kernel
theorem d_Law_close_7 : decode b_Law_close 7 = .ok (.lastore, 1) := by decide +kernel
theorem d_Law_close_8 : decode b_Law_close 8 = .ok (.goto 6, 3) := by decide +kernel
theorem d_Law_close_11 : decode b_Law_close 11 = .ok (.astore_n 2, 1) := by decide +kernel
theorem d_Law_close_12 : decode b_Law_close 12 = .ok (.iconst 1, 1) := by decide +kernel
theorem d_Law_close_13 : decode b_Law_close 13 = .ok (.ireturn, 1) := by decide +kernel
theorem d_Law_close_14 : decode b_Law_close 14 = .ok (.iconst 0, 1) := by decide +kernel
theorem d_Law_close_15 : decode b_Law_close 15 = .ok (.ireturn, 1) := by decide +kernel
theorem d_Law_turn_0 : decode b_Law_turn 0 = .ok (.aload_n 2, 1) := by decide +kernel
theorem d_Law_turn_1 : decode b_Law_turn 1 = .ok (.iconst 0, 1) := by decide +kernel
theorem d_Law_turn_2 : decode b_Law_turn 2 = .ok (.aload_n 0, 1) := by decide +kernel
theorem d_Law_turn_3 : decode b_Law_turn 3 = .ok (.iload_n 1, 1) := by decide +kernel
theorem d_Law_turn_4 : decode b_Law_turn 4 = .ok (.invokevirtual 18, 3) := by decide +kernel
theorem d_Law_turn_7 : decode b_Law_turn 7 = .ok (.i2l, 1) := by decide +kernel
theorem d_Law_turn_8 : decode b_Law_turn 8 = .ok (.lastore, 1) := by decide +kernel
theorem d_Law_turn_9 : decode b_Law_turn 9 = .ok (.goto 6, 3) := by decide +kernel
theorem d_Law_turn_12 : decode b_Law_turn 12 = .ok (.astore_n 3, 1) := by decide +kernel
theorem d_Law_turn_13 : decode b_Law_turn 13 = .ok (.iconst 1, 1) := by decide +kernel
theorem d_Law_turn_14 : decode b_Law_turn 14 = .ok (.ireturn, 1) := by decide +kernel
theorem d_Law_turn_15 : decode b_Law_turn 15 = .ok (.iconst 0, 1) := by decide +kernel
theorem d_Law_turn_16 : decode b_Law_turn 16 = .ok (.ireturn, 1) := by decide +kernel
theorem d_Law_black_0 : decode b_Law_black 0 = .ok (.aload_n 2, 1) := by decide +kernel
theorem d_Law_black_1 : decode b_Law_black 1 = .ok (.iconst 0, 1) := by decide +kernel
theorem d_Law_black_2 : decode b_Law_black 2 = .ok (.aload_n 0, 1) := by decide +kernel
theorem d_Law_black_3 : decode b_Law_black 3 = .ok (.iload_n 1, 1) := by decide +kernel
theorem d_Law_black_4 : decode b_Law_black 4 = .ok (.invokevirtual 24, 3) := by decide +kernel
theorem d_Law_black_7 : decode b_Law_black 7 = .ok (.ifCond .eq 7, 3) := by decide +kernel
theorem d_Law_black_10 : decode b_Law_black 10 = .ok (.lconst 1, 1) := by decide +kernel
theorem d_Law_black_11 : decode b_Law_black 11 = .ok (.goto 4, 3) := by decide +kernel
theorem d_Law_black_14 : decode b_Law_black 14 = .ok (.lconst 0, 1) := by decide +kernel
theorem d_Law_black_15 : decode b_Law_black 15 = .ok (.lastore, 1) := by decide +kernel
theorem d_Law_black_16 : decode b_Law_black 16 = .ok (.goto 6, 3) := by decide +kernel
theorem d_Law_black_19 : decode b_Law_black 19 = .ok (.astore_n 3, 1) := by decide +kernel
theorem d_Law_black_20 : decode b_Law_black 20 = .ok (.iconst 1, 1) := by decide +kernel
theorem d_Law_black_21 : decode b_Law_black 21 = .ok (.ireturn, 1) := by decide +kernel
theorem d_Law_black_22 : decode b_Law_black 22 = .ok (.iconst 0, 1) := by decide +kernel
theorem d_Law_black_23 : decode b_Law_black 23 = .ok (.ireturn, 1) := by decide +kernel
theorem d_Law_law_0 : decode b_Law_law 0 = .ok (.new 8, 3) := by decide +kernel
theorem d_Law_law_3 : decode b_Law_law 3 = .ok (.dup, 1) := by decide +kernel
theorem d_Law_law_4 : decode b_Law_law 4 = .ok (.aload_n 0, 1) := by decide +kernel
theorem d_Law_law_5 : decode b_Law_law 5 = .ok (.iconst 0, 1) := by decide +kernel
theorem d_Law_law_6 : decode b_Law_law 6 = .ok (.invokestatic 30, 3) := by decide +kernel
theorem d_Law_law_9 : decode b_Law_law 9 = .ok (.invokespecial 36, 3) := by decide +kernel
theorem d_Law_law_12 : decode b_Law_law 12 = .ok (.astore_n 1, 1) := by decide +kernel
theorem d_Law_law_13 : decode b_Law_law 13 = .ok (.new 39, 3) := by decide +kernel
theorem d_Law_law_16 : decode b_Law_law 16 = .ok (.dup, 1) := by decide +kernel
theorem d_Law_law_17 : decode b_Law_law 17 = .ok (.aload_n 0, 1) := by decide +kernel
theorem d_Law_law_18 : decode b_Law_law 18 = .ok (.iconst 0, 1) := by decide +kernel
theorem d_Law_law_19 : decode b_Law_law 19 = .ok (.invokestatic 30, 3) := by decide +kernel
theorem d_Law_law_22 : decode b_Law_law 22 = .ok (.invokespecial 41, 3) := by decide +kernel
theorem d_Law_law_25 : decode b_Law_law 25 = .ok (.astore_n 2, 1) := by decide +kernel
theorem d_Law_law_26 : decode b_Law_law 26 = .ok (.iconst 1, 1) := by decide +kernel
theorem d_Law_law_27 : decode b_Law_law 27 = .ok (.newarray .long, 2) := by decide +kernel
theorem d_Law_law_29 : decode b_Law_law 29 = .ok (.astore_n 3, 1) := by decide +kernel
theorem d_Law_law_30 : decode b_Law_law 30 = .ok (.iconst 1, 1) := by decide +kernel
theorem d_Law_law_31 : decode b_Law_law 31 = .ok (.istore 4, 2) := by decide +kernel
theorem d_Law_law_33 : decode b_Law_law 33 = .ok (.iload 4, 2) := by decide +kernel
theorem d_Law_law_35 : decode b_Law_law 35 = .ok (.aload_n 0, 1) := by decide +kernel
theorem d_Law_law_36 : decode b_Law_law 36 = .ok (.arraylength, 1) := by decide +kernel
theorem d_Law_law_37 : decode b_Law_law 37 = .ok (.iconst 4, 1) := by decide +kernel
theorem d_Law_law_38 : decode b_Law_law 38 = .ok (.isub, 1) := by decide +kernel
theorem d_Law_law_39 : decode b_Law_law 39 = .ok (.if_icmp .gt 576, 3) := by decide +kernel
theorem d_Law_law_42 : decode b_Law_law 42 = .ok (.aload_n 0, 1) := by decide +kernel
theorem d_Law_law_43 : decode b_Law_law 43 = .ok (.iload 4, 2) := by decide +kernel
theorem d_Law_law_45 : decode b_Law_law 45 = .ok (.iaload, 1) := by decide +kernel
theorem d_Law_law_46 : decode b_Law_law 46 = .ok (.bipush 15, 2) := by decide +kernel
theorem d_Law_law_48 : decode b_Law_law 48 = .ok (.iand, 1) := by decide +kernel
theorem d_Law_law_49 : decode b_Law_law 49 = .ok (.tableswitch 560 0 13 #[71, 136, 180, 224, 235, 261, 330, 386, 397, 408, 421, 484, 510, 535], 71) := by decide +kernel
theorem d_Law_law_120 : decode b_Law_law 120 = .ok (.aload_n 1, 1) := by decide +kernel
theorem d_Law_law_121 : decode b_Law_law 121 = .ok (.aload_n 0, 1) := by decide +kernel
theorem d_Law_law_122 : decode b_Law_law 122 = .ok (.iload 4, 2) := by decide +kernel
theorem d_Law_law_124 : decode b_Law_law 124 = .ok (.iconst 1, 1) := by decide +kernel
theorem d_Law_law_125 : decode b_Law_law 125 = .ok (.iadd, 1) := by decide +kernel
theorem d_Law_law_126 : decode b_Law_law 126 = .ok (.iaload, 1) := by decide +kernel
theorem d_Law_law_127 : decode b_Law_law 127 = .ok (.aload_n 0, 1) := by decide +kernel
theorem d_Law_law_128 : decode b_Law_law 128 = .ok (.iload 4, 2) := by decide +kernel
theorem d_Law_law_130 : decode b_Law_law 130 = .ok (.iconst 2, 1) := by decide +kernel
theorem d_Law_law_131 : decode b_Law_law 131 = .ok (.iadd, 1) := by decide +kernel
theorem d_Law_law_132 : decode b_Law_law 132 = .ok (.iaload, 1) := by decide +kernel
theorem d_Law_law_133 : decode b_Law_law 133 = .ok (.aload_n 0, 1) := by decide +kernel
theorem d_Law_law_134 : decode b_Law_law 134 = .ok (.iload 4, 2) := by decide +kernel
theorem d_Law_law_136 : decode b_Law_law 136 = .ok (.iconst 3, 1) := by decide +kernel
theorem d_Law_law_137 : decode b_Law_law 137 = .ok (.iadd, 1) := by decide +kernel
theorem d_Law_law_138 : decode b_Law_law 138 = .ok (.iaload, 1) := by decide +kernel
theorem d_Law_law_139 : decode b_Law_law 139 = .ok (.ifCond .eq 7, 3) := by decide +kernel
theorem d_Law_law_142 : decode b_Law_law 142 = .ok (.iconst 1, 1) := by decide +kernel
theorem d_Law_law_143 : decode b_Law_law 143 = .ok (.goto 4, 3) := by decide +kernel
theorem d_Law_law_146 : decode b_Law_law 146 = .ok (.iconst 0, 1) := by decide +kernel
theorem d_Law_law_147 : decode b_Law_law 147 = .ok (.invokevirtual 42, 3) := by decide +kernel
theorem d_Law_law_150 : decode b_Law_law 150 = .ok (.aload_n 2, 1) := by decide +kernel
theorem d_Law_law_151 : decode b_Law_law 151 = .ok (.aload_n 0, 1) := by decide +kernel
theorem d_Law_law_152 : decode b_Law_law 152 = .ok (.iload 4, 2) := by decide +kernel
theorem d_Law_law_154 : decode b_Law_law 154 = .ok (.iconst 1, 1) := by decide +kernel
theorem d_Law_law_155 : decode b_Law_law 155 = .ok (.iadd, 1) := by decide +kernel
theorem d_Law_law_156 : decode b_Law_law 156 = .ok (.iaload, 1) := by decide +kernel
theorem d_Law_law_157 : decode b_Law_law 157 = .ok (.aload_n 0, 1) := by decide +kernel
theorem d_Law_law_158 : decode b_Law_law 158 = .ok (.iload 4, 2) := by decide +kernel
theorem d_Law_law_160 : decode b_Law_law 160 = .ok (.iconst 2, 1) := by decide +kernel
theorem d_Law_law_161 : decode b_Law_law 161 = .ok (.iadd, 1) := by decide +kernel
theorem d_Law_law_162 : decode b_Law_law 162 = .ok (.iaload, 1) := by decide +kernel
theorem d_Law_law_163 : decode b_Law_law 163 = .ok (.aload_n 0, 1) := by decide +kernel
theorem d_Law_law_164 : decode b_Law_law 164 = .ok (.iload 4, 2) := by decide +kernel
theorem d_Law_law_166 : decode b_Law_law 166 = .ok (.iconst 3, 1) := by decide +kernel
theorem d_Law_law_167 : decode b_Law_law 167 = .ok (.iadd, 1) := by decide +kernel
theorem d_Law_law_168 : decode b_Law_law 168 = .ok (.iaload, 1) := by decide +kernel
theorem d_Law_law_169 : decode b_Law_law 169 = .ok (.ifCond .eq 7, 3) := by decide +kernel
theorem d_Law_law_172 : decode b_Law_law 172 = .ok (.iconst 1, 1) := by decide +kernel
theorem d_Law_law_173 : decode b_Law_law 173 = .ok (.goto 4, 3) := by decide +kernel
theorem d_Law_law_176 : decode b_Law_law 176 = .ok (.iconst 0, 1) := by decide +kernel
theorem d_Law_law_177 : decode b_Law_law 177 = .ok (.invokevirtual 46, 3) := by decide +kernel
theorem d_Law_law_180 : decode b_Law_law 180 = .ok (.if_icmp .eq 429, 3) := by decide +kernel
theorem d_Law_law_183 : decode b_Law_law 183 = .ok (.iconst 0, 1) := by decide +kernel
theorem d_Law_law_184 : decode b_Law_law 184 = .ok (.ireturn, 1) := by decide +kernel
theorem d_Law_law_185 : decode b_Law_law 185 = .ok (.aload_n 1, 1) := by decide +kernel
theorem d_Law_law_186 : decode b_Law_law 186 = .ok (.aload_n 3, 1) := by decide +kernel
theorem d_Law_law_187 : decode b_Law_law 187 = .ok (.invokestatic 47, 3) := by decide +kernel
theorem d_Law_law_190 : decode b_Law_law 190 = .ok (.istore 5, 2) := by decide +kernel
theorem d_Law_law_192 : decode b_Law_law 192 = .ok (.aload_n 2, 1) := by decide +kernel
theorem d_Law_law_193 : decode b_Law_law 193 = .ok (.invokevirtual 50, 3) := by decide +kernel
theorem d_Law_law_196 : decode b_Law_law 196 = .ok (.istore 6, 2) := by decide +kernel
theorem d_Law_law_198 : decode b_Law_law 198 = .ok (.aload_n 2, 1) := by decide +kernel
theorem d_Law_law_199 : decode b_Law_law 199 = .ok (.invokevirtual 51, 3) := by decide +kernel
theorem d_Law_law_202 : decode b_Law_law 202 = .ok (.iload 5, 2) := by decide +kernel
theorem d_Law_law_204 : decode b_Law_law 204 = .ok (.if_icmp .eq 5, 3) := by decide +kernel
theorem d_Law_law_207 : decode b_Law_law 207 = .ok (.iconst 0, 1) := by decide +kernel
theorem d_Law_law_208 : decode b_Law_law 208 = .ok (.ireturn, 1) := by decide +kernel
theorem d_Law_law_209 : decode b_Law_law 209 = .ok (.iload 5, 2) := by decide +kernel
theorem d_Law_law_211 : decode b_Law_law 211 = .ok (.ifCond .ne 15, 3) := by decide +kernel
theorem d_Law_law_214 : decode b_Law_law 214 = .ok (.aload_n 3, 1) := by decide +kernel
theorem d_Law_law_215 : decode b_Law_law 215 = .ok (.iconst 0, 1) := by decide +kernel
theorem d_Law_law_216 : decode b_Law_law 216 = .ok (.laload, 1) := by decide +kernel
theorem d_Law_law_217 : decode b_Law_law 217 = .ok (.iload 6, 2) := by decide +kernel
theorem d_Law_law_219 : decode b_Law_law 219 = .ok (.i2l, 1) := by decide +kernel
theorem d_Law_law_220 : decode b_Law_law 220 = .ok (.lcmp, 1) := by decide +kernel
theorem d_Law_law_221 : decode b_Law_law 221 = .ok (.ifCond .eq 5, 3) := by decide +kernel
theorem d_Law_law_224 : decode b_Law_law 224 = .ok (.iconst 0, 1) := by decide +kernel
theorem d_Law_law_225 : decode b_Law_law 225 = .ok (.ireturn, 1) := by decide +kernel
theorem d_Law_law_226 : decode b_Law_law 226 = .ok (.goto 383, 3) := by decide +kernel
theorem d_Law_law_229 : decode b_Law_law 229 = .ok (.aload_n 1, 1) := by decide +kernel
theorem d_Law_law_230 : decode b_Law_law 230 = .ok (.aload_n 3, 1) := by decide +kernel
theorem d_Law_law_231 : decode b_Law_law 231 = .ok (.invokestatic 54, 3) := by decide +kernel
theorem d_Law_law_234 : decode b_Law_law 234 = .ok (.istore 5, 2) := by decide +kernel
theorem d_Law_law_236 : decode b_Law_law 236 = .ok (.aload_n 2, 1) := by decide +kernel
theorem d_Law_law_237 : decode b_Law_law 237 = .ok (.invokevirtual 56, 3) := by decide +kernel
theorem d_Law_law_240 : decode b_Law_law 240 = .ok (.istore 6, 2) := by decide +kernel
theorem d_Law_law_242 : decode b_Law_law 242 = .ok (.aload_n 2, 1) := by decide +kernel
theorem d_Law_law_243 : decode b_Law_law 243 = .ok (.invokevirtual 51, 3) := by decide +kernel
theorem d_Law_law_246 : decode b_Law_law 246 = .ok (.iload 5, 2) := by decide +kernel
theorem d_Law_law_248 : decode b_Law_law 248 = .ok (.if_icmp .eq 5, 3) := by decide +kernel
theorem d_Law_law_251 : decode b_Law_law 251 = .ok (.iconst 0, 1) := by decide +kernel
theorem d_Law_law_252 : decode b_Law_law 252 = .ok (.ireturn, 1) := by decide +kernel
theorem d_Law_law_253 : decode b_Law_law 253 = .ok (.iload 5, 2) := by decide +kernel
theorem d_Law_law_255 : decode b_Law_law 255 = .ok (.ifCond .ne 15, 3) := by decide +kernel
theorem d_Law_law_258 : decode b_Law_law 258 = .ok (.aload_n 3, 1) := by decide +kernel
theorem d_Law_law_259 : decode b_Law_law 259 = .ok (.iconst 0, 1) := by decide +kernel
theorem d_Law_law_260 : decode b_Law_law 260 = .ok (.laload, 1) := by decide +kernel
theorem d_Law_law_261 : decode b_Law_law 261 = .ok (.iload 6, 2) := by decide +kernel
theorem d_Law_law_263 : decode b_Law_law 263 = .ok (.i2l, 1) := by decide +kernel
theorem d_Law_law_264 : decode b_Law_law 264 = .ok (.lcmp, 1) := by decide +kernel
theorem d_Law_law_265 : decode b_Law_law 265 = .ok (.ifCond .eq 5, 3) := by decide +kernel
theorem d_Law_law_268 : decode b_Law_law 268 = .ok (.iconst 0, 1) := by decide +kernel
theorem d_Law_law_269 : decode b_Law_law 269 = .ok (.ireturn, 1) := by decide +kernel
theorem d_Law_law_270 : decode b_Law_law 270 = .ok (.goto 339, 3) := by decide +kernel
theorem d_Law_law_273 : decode b_Law_law 273 = .ok (.aload_n 1, 1) := by decide +kernel
theorem d_Law_law_274 : decode b_Law_law 274 = .ok (.invokevirtual 57, 3) := by decide +kernel
theorem d_Law_law_277 : decode b_Law_law 277 = .ok (.aload_n 2, 1) := by decide +kernel
theorem d_Law_law_278 : decode b_Law_law 278 = .ok (.invokevirtual 60, 3) := by decide +kernel
theorem d_Law_law_281 : decode b_Law_law 281 = .ok (.goto 328, 3) := by decide +kernel
theorem d_Law_law_284 : decode b_Law_law 284 = .ok (.aload_n 1, 1) := by decide +kernel
theorem d_Law_law_285 : decode b_Law_law 285 = .ok (.aload_n 0, 1) := by decide +kernel
theorem d_Law_law_286 : decode b_Law_law 286 = .ok (.iload 4, 2) := by decide +kernel
theorem d_Law_law_288 : decode b_Law_law 288 = .ok (.iconst 1, 1) := by decide +kernel
theorem d_Law_law_289 : decode b_Law_law 289 = .ok (.iadd, 1) := by decide +kernel
theorem d_Law_law_290 : decode b_Law_law 290 = .ok (.iaload, 1) := by decide +kernel
theorem d_Law_law_291 : decode b_Law_law 291 = .ok (.invokevirtual 61, 3) := by decide +kernel
theorem d_Law_law_294 : decode b_Law_law 294 = .ok (.aload_n 2, 1) := by decide +kernel
theorem d_Law_law_295 : decode b_Law_law 295 = .ok (.aload_n 0, 1) := by decide +kernel
theorem d_Law_law_296 : decode b_Law_law 296 = .ok (.iload 4, 2) := by decide +kernel
theorem d_Law_law_298 : decode b_Law_law 298 = .ok (.iconst 1, 1) := by decide +kernel
theorem d_Law_law_299 : decode b_Law_law 299 = .ok (.iadd, 1) := by decide +kernel
theorem d_Law_law_300 : decode b_Law_law 300 = .ok (.iaload, 1) := by decide +kernel
theorem d_Law_law_301 : decode b_Law_law 301 = .ok (.invokevirtual 65, 3) := by decide +kernel
theorem d_Law_law_304 : decode b_Law_law 304 = .ok (.lcmp, 1) := by decide +kernel
theorem d_Law_law_305 : decode b_Law_law 305 = .ok (.ifCond .eq 304, 3) := by decide +kernel
theorem d_Law_law_308 : decode b_Law_law 308 = .ok (.iconst 0, 1) := by decide +kernel
theorem d_Law_law_309 : decode b_Law_law 309 = .ok (.ireturn, 1) := by decide +kernel
theorem d_Law_law_310 : decode b_Law_law 310 = .ok (.aload_n 1, 1) := by decide +kernel
theorem d_Law_law_311 : decode b_Law_law 311 = .ok (.aload_n 0, 1) := by decide +kernel
theorem d_Law_law_312 : decode b_Law_law 312 = .ok (.iload 4, 2) := by decide +kernel
theorem d_Law_law_314 : decode b_Law_law 314 = .ok (.iconst 1, 1) := by decide +kernel
theorem d_Law_law_315 : decode b_Law_law 315 = .ok (.iadd, 1) := by decide +kernel
theorem d_Law_law_316 : decode b_Law_law 316 = .ok (.iaload, 1) := by decide +kernel
theorem d_Law_law_317 : decode b_Law_law 317 = .ok (.i2l, 1) := by decide +kernel
theorem d_Law_law_318 : decode b_Law_law 318 = .ok (.bipush 32, 2) := by decide +kernel
theorem d_Law_law_320 : decode b_Law_law 320 = .ok (.lshl, 1) := by decide +kernel
theorem d_Law_law_321 : decode b_Law_law 321 = .ok (.aload_n 0, 1) := by decide +kernel
theorem d_Law_law_322 : decode b_Law_law 322 = .ok (.iload 4, 2) := by decide +kernel
theorem d_Law_law_324 : decode b_Law_law 324 = .ok (.iconst 2, 1) := by decide +kernel
theorem d_Law_law_325 : decode b_Law_law 325 = .ok (.iadd, 1) := by decide +kernel
theorem d_Law_law_326 : decode b_Law_law 326 = .ok (.iaload, 1) := by decide +kernel
theorem d_Law_law_327 : decode b_Law_law 327 = .ok (.i2l, 1) := by decide +kernel
theorem d_Law_law_328 : decode b_Law_law 328 = .ok (.ldc2_w 66, 3) := by decide +kernel
theorem d_Law_law_331 : decode b_Law_law 331 = .ok (.land, 1) := by decide +kernel
theorem d_Law_law_332 : decode b_Law_law 332 = .ok (.lor, 1) := by decide +kernel
theorem d_Law_law_333 : decode b_Law_law 333 = .ok (.aload_n 0, 1) := by decide +kernel
theorem d_Law_law_334 : decode b_Law_law 334 = .ok (.iload 4, 2) := by decide +kernel
theorem d_Law_law_336 : decode b_Law_law 336 = .ok (.iconst 3, 1) := by decide +kernel
theorem d_Law_law_337 : decode b_Law_law 337 = .ok (.iadd, 1) := by decide +kernel
theorem d_Law_law_338 : decode b_Law_law 338 = .ok (.iaload, 1) := by decide +kernel
theorem d_Law_law_339 : decode b_Law_law 339 = .ok (.invokevirtual 68, 3) := by decide +kernel
theorem d_Law_law_342 : decode b_Law_law 342 = .ok (.aload_n 2, 1) := by decide +kernel
theorem d_Law_law_343 : decode b_Law_law 343 = .ok (.aload_n 0, 1) := by decide +kernel
theorem d_Law_law_344 : decode b_Law_law 344 = .ok (.iload 4, 2) := by decide +kernel
theorem d_Law_law_346 : decode b_Law_law 346 = .ok (.iconst 1, 1) := by decide +kernel
theorem d_Law_law_347 : decode b_Law_law 347 = .ok (.iadd, 1) := by decide +kernel
theorem d_Law_law_348 : decode b_Law_law 348 = .ok (.iaload, 1) := by decide +kernel
theorem d_Law_law_349 : decode b_Law_law 349 = .ok (.i2l, 1) := by decide +kernel
theorem d_Law_law_350 : decode b_Law_law 350 = .ok (.bipush 32, 2) := by decide +kernel
theorem d_Law_law_352 : decode b_Law_law 352 = .ok (.lshl, 1) := by decide +kernel
theorem d_Law_law_353 : decode b_Law_law 353 = .ok (.aload_n 0, 1) := by decide +kernel
theorem d_Law_law_354 : decode b_Law_law 354 = .ok (.iload 4, 2) := by decide +kernel
theorem d_Law_law_356 : decode b_Law_law 356 = .ok (.iconst 2, 1) := by decide +kernel
theorem d_Law_law_357 : decode b_Law_law 357 = .ok (.iadd, 1) := by decide +kernel
theorem d_Law_law_358 : decode b_Law_law 358 = .ok (.iaload, 1) := by decide +kernel
theorem d_Law_law_359 : decode b_Law_law 359 = .ok (.i2l, 1) := by decide +kernel
theorem d_Law_law_360 : decode b_Law_law 360 = .ok (.ldc2_w 66, 3) := by decide +kernel
theorem d_Law_law_363 : decode b_Law_law 363 = .ok (.land, 1) := by decide +kernel
theorem d_Law_law_364 : decode b_Law_law 364 = .ok (.lor, 1) := by decide +kernel
theorem d_Law_law_365 : decode b_Law_law 365 = .ok (.aload_n 0, 1) := by decide +kernel
theorem d_Law_law_366 : decode b_Law_law 366 = .ok (.iload 4, 2) := by decide +kernel
theorem d_Law_law_368 : decode b_Law_law 368 = .ok (.iconst 3, 1) := by decide +kernel
theorem d_Law_law_369 : decode b_Law_law 369 = .ok (.iadd, 1) := by decide +kernel
theorem d_Law_law_370 : decode b_Law_law 370 = .ok (.iaload, 1) := by decide +kernel
theorem d_Law_law_371 : decode b_Law_law 371 = .ok (.invokevirtual 72, 3) := by decide +kernel
theorem d_Law_law_374 : decode b_Law_law 374 = .ok (.if_icmp .eq 235, 3) := by decide +kernel
theorem d_Law_law_377 : decode b_Law_law 377 = .ok (.iconst 0, 1) := by decide +kernel
theorem d_Law_law_378 : decode b_Law_law 378 = .ok (.ireturn, 1) := by decide +kernel
theorem d_Law_law_379 : decode b_Law_law 379 = .ok (.aload_n 1, 1) := by decide +kernel
theorem d_Law_law_380 : decode b_Law_law 380 = .ok (.aload_n 0, 1) := by decide +kernel
theorem d_Law_law_381 : decode b_Law_law 381 = .ok (.iload 4, 2) := by decide +kernel
theorem d_Law_law_383 : decode b_Law_law 383 = .ok (.iconst 1, 1) := by decide +kernel
theorem d_Law_law_384 : decode b_Law_law 384 = .ok (.iadd, 1) := by decide +kernel
theorem d_Law_law_385 : decode b_Law_law 385 = .ok (.iaload, 1) := by decide +kernel
theorem d_Law_law_386 : decode b_Law_law 386 = .ok (.aload_n 3, 1) := by decide +kernel
theorem d_Law_law_387 : decode b_Law_law 387 = .ok (.invokestatic 73, 3) := by decide +kernel
theorem d_Law_law_390 : decode b_Law_law 390 = .ok (.istore 5, 2) := by decide +kernel
theorem d_Law_law_392 : decode b_Law_law 392 = .ok (.aload_n 2, 1) := by decide +kernel
theorem d_Law_law_393 : decode b_Law_law 393 = .ok (.aload_n 0, 1) := by decide +kernel
theorem d_Law_law_394 : decode b_Law_law 394 = .ok (.iload 4, 2) := by decide +kernel
theorem d_Law_law_396 : decode b_Law_law 396 = .ok (.iconst 1, 1) := by decide +kernel
theorem d_Law_law_397 : decode b_Law_law 397 = .ok (.iadd, 1) := by decide +kernel
theorem d_Law_law_398 : decode b_Law_law 398 = .ok (.iaload, 1) := by decide +kernel
theorem d_Law_law_399 : decode b_Law_law 399 = .ok (.invokevirtual 76, 3) := by decide +kernel
theorem d_Law_law_402 : decode b_Law_law 402 = .ok (.istore 6, 2) := by decide +kernel
theorem d_Law_law_404 : decode b_Law_law 404 = .ok (.aload_n 2, 1) := by decide +kernel
theorem d_Law_law_405 : decode b_Law_law 405 = .ok (.invokevirtual 51, 3) := by decide +kernel
theorem d_Law_law_408 : decode b_Law_law 408 = .ok (.iload 5, 2) := by decide +kernel
theorem d_Law_law_410 : decode b_Law_law 410 = .ok (.if_icmp .eq 5, 3) := by decide +kernel
theorem d_Law_law_413 : decode b_Law_law 413 = .ok (.iconst 0, 1) := by decide +kernel
theorem d_Law_law_414 : decode b_Law_law 414 = .ok (.ireturn, 1) := by decide +kernel
theorem d_Law_law_415 : decode b_Law_law 415 = .ok (.iload 5, 2) := by decide +kernel
theorem d_Law_law_417 : decode b_Law_law 417 = .ok (.ifCond .ne 15, 3) := by decide +kernel
theorem d_Law_law_420 : decode b_Law_law 420 = .ok (.aload_n 3, 1) := by decide +kernel
theorem d_Law_law_421 : decode b_Law_law 421 = .ok (.iconst 0, 1) := by decide +kernel
theorem d_Law_law_422 : decode b_Law_law 422 = .ok (.laload, 1) := by decide +kernel
theorem d_Law_law_423 : decode b_Law_law 423 = .ok (.iload 6, 2) := by decide +kernel
theorem d_Law_law_425 : decode b_Law_law 425 = .ok (.i2l, 1) := by decide +kernel
theorem d_Law_law_426 : decode b_Law_law 426 = .ok (.lcmp, 1) := by decide +kernel
theorem d_Law_law_427 : decode b_Law_law 427 = .ok (.ifCond .eq 5, 3) := by decide +kernel
theorem d_Law_law_430 : decode b_Law_law 430 = .ok (.iconst 0, 1) := by decide +kernel
theorem d_Law_law_431 : decode b_Law_law 431 = .ok (.ireturn, 1) := by decide +kernel
theorem d_Law_law_432 : decode b_Law_law 432 = .ok (.goto 177, 3) := by decide +kernel
theorem d_Law_law_435 : decode b_Law_law 435 = .ok (.aload_n 1, 1) := by decide +kernel
theorem d_Law_law_436 : decode b_Law_law 436 = .ok (.invokevirtual 77, 3) := by decide +kernel
theorem d_Law_law_439 : decode b_Law_law 439 = .ok (.aload_n 2, 1) := by decide +kernel
theorem d_Law_law_440 : decode b_Law_law 440 = .ok (.invokevirtual 80, 3) := by decide +kernel
theorem d_Law_law_443 : decode b_Law_law 443 = .ok (.goto 166, 3) := by decide +kernel
theorem d_Law_law_446 : decode b_Law_law 446 = .ok (.aload_n 1, 1) := by decide +kernel
theorem d_Law_law_447 : decode b_Law_law 447 = .ok (.invokevirtual 81, 3) := by decide +kernel
theorem d_Law_law_450 : decode b_Law_law 450 = .ok (.aload_n 2, 1) := by decide +kernel
theorem d_Law_law_451 : decode b_Law_law 451 = .ok (.invokevirtual 84, 3) := by decide +kernel
theorem d_Law_law_454 : decode b_Law_law 454 = .ok (.goto 155, 3) := by decide +kernel
theorem d_Law_law_457 : decode b_Law_law 457 = .ok (.aload_n 1, 1) := by decide +kernel
theorem d_Law_law_458 : decode b_Law_law 458 = .ok (.invokevirtual 85, 3) := by decide +kernel
theorem d_Law_law_461 : decode b_Law_law 461 = .ok (.aload_n 2, 1) := by decide +kernel
theorem d_Law_law_462 : decode b_Law_law 462 = .ok (.invokevirtual 88, 3) := by decide +kernel
theorem d_Law_law_465 : decode b_Law_law 465 = .ok (.if_icmp .eq 144, 3) := by decide +kernel
theorem d_Law_law_468 : decode b_Law_law 468 = .ok (.iconst 0, 1) := by decide +kernel
theorem d_Law_law_469 : decode b_Law_law 469 = .ok (.ireturn, 1) := by decide +kernel
theorem d_Law_law_470 : decode b_Law_law 470 = .ok (.aload_n 1, 1) := by decide +kernel
theorem d_Law_law_471 : decode b_Law_law 471 = .ok (.aload_n 0, 1) := by decide +kernel
theorem d_Law_law_472 : decode b_Law_law 472 = .ok (.iload 4, 2) := by decide +kernel
theorem d_Law_law_474 : decode b_Law_law 474 = .ok (.iconst 1, 1) := by decide +kernel
theorem d_Law_law_475 : decode b_Law_law 475 = .ok (.iadd, 1) := by decide +kernel
theorem d_Law_law_476 : decode b_Law_law 476 = .ok (.iaload, 1) := by decide +kernel
theorem d_Law_law_477 : decode b_Law_law 477 = .ok (.aload_n 3, 1) := by decide +kernel
theorem d_Law_law_478 : decode b_Law_law 478 = .ok (.invokestatic 89, 3) := by decide +kernel
theorem d_Law_law_481 : decode b_Law_law 481 = .ok (.istore 5, 2) := by decide +kernel
theorem d_Law_law_483 : decode b_Law_law 483 = .ok (.aload_n 2, 1) := by decide +kernel
theorem d_Law_law_484 : decode b_Law_law 484 = .ok (.aload_n 0, 1) := by decide +kernel
theorem d_Law_law_485 : decode b_Law_law 485 = .ok (.iload 4, 2) := by decide +kernel
theorem d_Law_law_487 : decode b_Law_law 487 = .ok (.iconst 1, 1) := by decide +kernel
theorem d_Law_law_488 : decode b_Law_law 488 = .ok (.iadd, 1) := by decide +kernel
theorem d_Law_law_489 : decode b_Law_law 489 = .ok (.iaload, 1) := by decide +kernel
theorem d_Law_law_490 : decode b_Law_law 490 = .ok (.invokevirtual 91, 3) := by decide +kernel
theorem d_Law_law_493 : decode b_Law_law 493 = .ok (.istore 6, 2) := by decide +kernel
theorem d_Law_law_495 : decode b_Law_law 495 = .ok (.aload_n 2, 1) := by decide +kernel
theorem d_Law_law_496 : decode b_Law_law 496 = .ok (.invokevirtual 51, 3) := by decide +kernel
theorem d_Law_law_499 : decode b_Law_law 499 = .ok (.iload 5, 2) := by decide +kernel
theorem d_Law_law_501 : decode b_Law_law 501 = .ok (.if_icmp .eq 5, 3) := by decide +kernel
theorem d_Law_law_504 : decode b_Law_law 504 = .ok (.iconst 0, 1) := by decide +kernel
theorem d_Law_law_505 : decode b_Law_law 505 = .ok (.ireturn, 1) := by decide +kernel
theorem d_Law_law_506 : decode b_Law_law 506 = .ok (.iload 5, 2) := by decide +kernel
theorem d_Law_law_508 : decode b_Law_law 508 = .ok (.ifCond .ne 22, 3) := by decide +kernel
theorem d_Law_law_511 : decode b_Law_law 511 = .ok (.aload_n 3, 1) := by decide +kernel
theorem d_Law_law_512 : decode b_Law_law 512 = .ok (.iconst 0, 1) := by decide +kernel
theorem d_Law_law_513 : decode b_Law_law 513 = .ok (.laload, 1) := by decide +kernel
theorem d_Law_law_514 : decode b_Law_law 514 = .ok (.iload 6, 2) := by decide +kernel
theorem d_Law_law_516 : decode b_Law_law 516 = .ok (.ifCond .eq 7, 3) := by decide +kernel
theorem d_Law_law_519 : decode b_Law_law 519 = .ok (.lconst 1, 1) := by decide +kernel
theorem d_Law_law_520 : decode b_Law_law 520 = .ok (.goto 4, 3) := by decide +kernel
theorem d_Law_law_523 : decode b_Law_law 523 = .ok (.lconst 0, 1) := by decide +kernel
theorem d_Law_law_524 : decode b_Law_law 524 = .ok (.lcmp, 1) := by decide +kernel
theorem d_Law_law_525 : decode b_Law_law 525 = .ok (.ifCond .eq 5, 3) := by decide +kernel
theorem d_Law_law_528 : decode b_Law_law 528 = .ok (.iconst 0, 1) := by decide +kernel
theorem d_Law_law_529 : decode b_Law_law 529 = .ok (.ireturn, 1) := by decide +kernel
theorem d_Law_law_530 : decode b_Law_law 530 = .ok (.goto 79, 3) := by decide +kernel
theorem d_Law_law_533 : decode b_Law_law 533 = .ok (.aload_n 1, 1) := by decide +kernel
theorem d_Law_law_534 : decode b_Law_law 534 = .ok (.aload_n 0, 1) := by decide +kernel
theorem d_Law_law_535 : decode b_Law_law 535 = .ok (.iload 4, 2) := by decide +kernel
theorem d_Law_law_537 : decode b_Law_law 537 = .ok (.iconst 1, 1) := by decide +kernel
theorem d_Law_law_538 : decode b_Law_law 538 = .ok (.iadd, 1) := by decide +kernel
theorem d_Law_law_539 : decode b_Law_law 539 = .ok (.iaload, 1) := by decide +kernel
theorem d_Law_law_540 : decode b_Law_law 540 = .ok (.invokevirtual 92, 3) := by decide +kernel
theorem d_Law_law_543 : decode b_Law_law 543 = .ok (.aload_n 2, 1) := by decide +kernel
theorem d_Law_law_544 : decode b_Law_law 544 = .ok (.aload_n 0, 1) := by decide +kernel
theorem d_Law_law_545 : decode b_Law_law 545 = .ok (.iload 4, 2) := by decide +kernel
theorem d_Law_law_547 : decode b_Law_law 547 = .ok (.iconst 1, 1) := by decide +kernel
theorem d_Law_law_548 : decode b_Law_law 548 = .ok (.iadd, 1) := by decide +kernel
theorem d_Law_law_549 : decode b_Law_law 549 = .ok (.iaload, 1) := by decide +kernel
theorem d_Law_law_550 : decode b_Law_law 550 = .ok (.invokevirtual 95, 3) := by decide +kernel
theorem d_Law_law_553 : decode b_Law_law 553 = .ok (.lcmp, 1) := by decide +kernel
theorem d_Law_law_554 : decode b_Law_law 554 = .ok (.ifCond .eq 55, 3) := by decide +kernel
theorem d_Law_law_557 : decode b_Law_law 557 = .ok (.iconst 0, 1) := by decide +kernel
theorem d_Law_law_558 : decode b_Law_law 558 = .ok (.ireturn, 1) := by decide +kernel
theorem d_Law_law_559 : decode b_Law_law 559 = .ok (.aload_n 1, 1) := by decide +kernel
theorem d_Law_law_560 : decode b_Law_law 560 = .ok (.aload_n 0, 1) := by decide +kernel
theorem d_Law_law_561 : decode b_Law_law 561 = .ok (.iload 4, 2) := by decide +kernel
theorem d_Law_law_563 : decode b_Law_law 563 = .ok (.iconst 1, 1) := by decide +kernel
theorem d_Law_law_564 : decode b_Law_law 564 = .ok (.iadd, 1) := by decide +kernel
theorem d_Law_law_565 : decode b_Law_law 565 = .ok (.iaload, 1) := by decide +kernel
theorem d_Law_law_566 : decode b_Law_law 566 = .ok (.invokevirtual 96, 3) := by decide +kernel
theorem d_Law_law_569 : decode b_Law_law 569 = .ok (.aload_n 2, 1) := by decide +kernel
theorem d_Law_law_570 : decode b_Law_law 570 = .ok (.aload_n 0, 1) := by decide +kernel
theorem d_Law_law_571 : decode b_Law_law 571 = .ok (.iload 4, 2) := by decide +kernel
theorem d_Law_law_573 : decode b_Law_law 573 = .ok (.iconst 1, 1) := by decide +kernel
theorem d_Law_law_574 : decode b_Law_law 574 = .ok (.iadd, 1) := by decide +kernel
theorem d_Law_law_575 : decode b_Law_law 575 = .ok (.iaload, 1) := by decide +kernel
theorem d_Law_law_576 : decode b_Law_law 576 = .ok (.invokevirtual 99, 3) := by decide +kernel
theorem d_Law_law_579 : decode b_Law_law 579 = .ok (.if_icmp .eq 30, 3) := by decide +kernel
theorem d_Law_law_582 : decode b_Law_law 582 = .ok (.iconst 0, 1) := by decide +kernel
theorem d_Law_law_583 : decode b_Law_law 583 = .ok (.ireturn, 1) := by decide +kernel
theorem d_Law_law_584 : decode b_Law_law 584 = .ok (.aload_n 1, 1) := by decide +kernel
theorem d_Law_law_585 : decode b_Law_law 585 = .ok (.aload_n 0, 1) := by decide +kernel
theorem d_Law_law_586 : decode b_Law_law 586 = .ok (.iload 4, 2) := by decide +kernel
theorem d_Law_law_588 : decode b_Law_law 588 = .ok (.iconst 1, 1) := by decide +kernel
theorem d_Law_law_589 : decode b_Law_law 589 = .ok (.iadd, 1) := by decide +kernel
theorem d_Law_law_590 : decode b_Law_law 590 = .ok (.iaload, 1) := by decide +kernel
theorem d_Law_law_591 : decode b_Law_law 591 = .ok (.invokevirtual 100, 3) := by decide +kernel
theorem d_Law_law_594 : decode b_Law_law 594 = .ok (.aload_n 2, 1) := by decide +kernel
theorem d_Law_law_595 : decode b_Law_law 595 = .ok (.aload_n 0, 1) := by decide +kernel
theorem d_Law_law_596 : decode b_Law_law 596 = .ok (.iload 4, 2) := by decide +kernel
theorem d_Law_law_598 : decode b_Law_law 598 = .ok (.iconst 1, 1) := by decide +kernel
theorem d_Law_law_599 : decode b_Law_law 599 = .ok (.iadd, 1) := by decide +kernel
theorem d_Law_law_600 : decode b_Law_law 600 = .ok (.iaload, 1) := by decide +kernel
theorem d_Law_law_601 : decode b_Law_law 601 = .ok (.invokevirtual 103, 3) := by decide +kernel
theorem d_Law_law_604 : decode b_Law_law 604 = .ok (.if_icmp .eq 5, 3) := by decide +kernel
theorem d_Law_law_607 : decode b_Law_law 607 = .ok (.iconst 0, 1) := by decide +kernel
theorem d_Law_law_608 : decode b_Law_law 608 = .ok (.ireturn, 1) := by decide +kernel
theorem d_Law_law_609 : decode b_Law_law 609 = .ok (.iinc 4 4, 3) := by decide +kernel
theorem d_Law_law_612 : decode b_Law_law 612 = .ok (.goto (-579), 3) := by decide +kernel
theorem d_Law_law_615 : decode b_Law_law 615 = .ok (.iconst 1, 1) := by decide +kernel
theorem d_Law_law_616 : decode b_Law_law 616 = .ok (.ireturn, 1) := by decide +kernel
