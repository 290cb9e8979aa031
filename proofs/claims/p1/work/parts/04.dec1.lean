theorem d_Fo_init_22 : decode prog_4_method_1_code 22 = .ok (.aload_n 0, 1) := by decide +kernel
theorem d_Fo_init_23 : decode prog_4_method_1_code 23 = .ok (.sipush 2200, 3) := by decide +kernel
theorem d_Fo_init_26 : decode prog_4_method_1_code 26 = .ok (.newarray .long, 2) := by decide +kernel
theorem d_Fo_init_28 : decode prog_4_method_1_code 28 = .ok (.putfield 19, 3) := by decide +kernel
theorem d_Fo_init_31 : decode prog_4_method_1_code 31 = .ok (.aload_n 0, 1) := by decide +kernel
theorem d_Fo_init_32 : decode prog_4_method_1_code 32 = .ok (.sipush 2200, 3) := by decide +kernel
theorem d_Fo_init_35 : decode prog_4_method_1_code 35 = .ok (.newarray .long, 2) := by decide +kernel
theorem d_Fo_init_37 : decode prog_4_method_1_code 37 = .ok (.putfield 23, 3) := by decide +kernel
theorem d_Fo_init_4 : decode prog_4_method_1_code 4 = .ok (.aload_n 0, 1) := by decide +kernel
theorem d_Fo_init_40 : decode prog_4_method_1_code 40 = .ok (.return_, 1) := by decide +kernel
theorem d_Fo_init_5 : decode prog_4_method_1_code 5 = .ok (.sipush 200, 3) := by decide +kernel
theorem d_Fo_init_8 : decode prog_4_method_1_code 8 = .ok (.newarray .int, 2) := by decide +kernel
theorem d_La_add_0 : decode method_4_code 0 = .ok (.aload 6, 2) := by decide +kernel
theorem d_La_add_11 : decode method_4_code 11 = .ok (.invokevirtual 17, 3) := by decide +kernel
theorem d_La_add_14 : decode method_4_code 14 = .ok (.i2l, 1) := by decide +kernel
theorem d_La_add_15 : decode method_4_code 15 = .ok (.lastore, 1) := by decide +kernel
theorem d_La_add_16 : decode method_4_code 16 = .ok (.goto 7, 3) := by decide +kernel
theorem d_La_add_2 : decode method_4_code 2 = .ok (.iconst 0, 1) := by decide +kernel
theorem d_La_add_23 : decode method_4_code 23 = .ok (.iconst 0, 1) := by decide +kernel
theorem d_La_add_24 : decode method_4_code 24 = .ok (.ireturn, 1) := by decide +kernel
theorem d_La_add_3 : decode method_4_code 3 = .ok (.aload_n 0, 1) := by decide +kernel
theorem d_La_add_4 : decode method_4_code 4 = .ok (.iload_n 1, 1) := by decide +kernel
theorem d_La_add_5 : decode method_4_code 5 = .ok (.iload_n 2, 1) := by decide +kernel
theorem d_La_add_6 : decode method_4_code 6 = .ok (.iload_n 3, 1) := by decide +kernel
theorem d_La_add_7 : decode method_4_code 7 = .ok (.iload 4, 2) := by decide +kernel
theorem d_La_add_9 : decode method_4_code 9 = .ok (.iload 5, 2) := by decide +kernel
theorem d_La_check_0 : decode method_5_code 0 = .ok (.aload_n 1, 1) := by decide +kernel
theorem d_La_check_1 : decode method_5_code 1 = .ok (.iconst 0, 1) := by decide +kernel
theorem d_La_check_11 : decode method_5_code 11 = .ok (.astore_n 2, 1) := by decide +kernel
theorem d_La_check_12 : decode method_5_code 12 = .ok (.iconst 1, 1) := by decide +kernel
theorem d_La_check_13 : decode method_5_code 13 = .ok (.ireturn, 1) := by decide +kernel
theorem d_La_check_2 : decode method_5_code 2 = .ok (.aload_n 0, 1) := by decide +kernel
theorem d_La_check_3 : decode method_5_code 3 = .ok (.invokevirtual 21, 3) := by decide +kernel
theorem d_La_end_0 : decode method_7_code 0 = .ok (.aload_n 2, 1) := by decide +kernel
theorem d_La_end_1 : decode method_7_code 1 = .ok (.iconst 0, 1) := by decide +kernel
theorem d_La_end_12 : decode method_7_code 12 = .ok (.astore_n 3, 1) := by decide +kernel
theorem d_La_end_13 : decode method_7_code 13 = .ok (.iconst 1, 1) := by decide +kernel
theorem d_La_end_14 : decode method_7_code 14 = .ok (.ireturn, 1) := by decide +kernel
theorem d_La_end_15 : decode method_7_code 15 = .ok (.iconst 0, 1) := by decide +kernel
theorem d_La_end_16 : decode method_7_code 16 = .ok (.ireturn, 1) := by decide +kernel
theorem d_La_end_2 : decode method_7_code 2 = .ok (.aload_n 0, 1) := by decide +kernel
theorem d_La_end_3 : decode method_7_code 3 = .ok (.iload_n 1, 1) := by decide +kernel
theorem d_La_end_4 : decode method_7_code 4 = .ok (.invokevirtual 30, 3) := by decide +kernel
theorem d_La_end_7 : decode method_7_code 7 = .ok (.i2l, 1) := by decide +kernel
theorem d_La_end_8 : decode method_7_code 8 = .ok (.lastore, 1) := by decide +kernel
theorem d_La_end_9 : decode method_7_code 9 = .ok (.goto 6, 3) := by decide +kernel
theorem d_La_feed_0 : decode method_6_code 0 = .ok (.aload 6, 2) := by decide +kernel
theorem d_La_feed_11 : decode method_6_code 11 = .ok (.invokevirtual 25, 3) := by decide +kernel
theorem d_La_feed_14 : decode method_6_code 14 = .ok (.i2l, 1) := by decide +kernel
theorem d_La_feed_15 : decode method_6_code 15 = .ok (.lastore, 1) := by decide +kernel
theorem d_La_feed_16 : decode method_6_code 16 = .ok (.goto 7, 3) := by decide +kernel
theorem d_La_feed_2 : decode method_6_code 2 = .ok (.iconst 0, 1) := by decide +kernel
theorem d_La_feed_23 : decode method_6_code 23 = .ok (.iconst 0, 1) := by decide +kernel
theorem d_La_feed_24 : decode method_6_code 24 = .ok (.ireturn, 1) := by decide +kernel
theorem d_La_feed_3 : decode method_6_code 3 = .ok (.aload_n 0, 1) := by decide +kernel
theorem d_La_feed_4 : decode method_6_code 4 = .ok (.iload_n 1, 1) := by decide +kernel
theorem d_La_feed_5 : decode method_6_code 5 = .ok (.iload_n 2, 1) := by decide +kernel
theorem d_La_feed_6 : decode method_6_code 6 = .ok (.iload_n 3, 1) := by decide +kernel
theorem d_La_feed_7 : decode method_6_code 7 = .ok (.iload 4, 2) := by decide +kernel
theorem d_La_feed_9 : decode method_6_code 9 = .ok (.iload 5, 2) := by decide +kernel
theorem d_La_known_0 : decode method_12_code 0 = .ok (.aload 4, 2) := by decide +kernel
theorem d_La_known_14 : decode method_12_code 14 = .ok (.astore 5, 2) := by decide +kernel
theorem d_La_known_16 : decode method_12_code 16 = .ok (.iconst 1, 1) := by decide +kernel
theorem d_La_known_17 : decode method_12_code 17 = .ok (.ireturn, 1) := by decide +kernel
theorem d_La_known_18 : decode method_12_code 18 = .ok (.astore 5, 2) := by decide +kernel
theorem d_La_known_2 : decode method_12_code 2 = .ok (.iconst 0, 1) := by decide +kernel
theorem d_La_known_20 : decode method_12_code 20 = .ok (.iconst 2, 1) := by decide +kernel
theorem d_La_known_21 : decode method_12_code 21 = .ok (.ireturn, 1) := by decide +kernel
theorem d_La_known_3 : decode method_12_code 3 = .ok (.aload_n 0, 1) := by decide +kernel
theorem d_La_known_4 : decode method_12_code 4 = .ok (.iload_n 1, 1) := by decide +kernel
theorem d_La_known_5 : decode method_12_code 5 = .ok (.iload_n 2, 1) := by decide +kernel
theorem d_La_known_6 : decode method_12_code 6 = .ok (.iload_n 3, 1) := by decide +kernel
theorem d_La_known_7 : decode method_12_code 7 = .ok (.invokevirtual 50, 3) := by decide +kernel
theorem d_La_law_0 : decode code 0 = .ok (.new 8, 3) := by decide +kernel
theorem d_La_law_108 : decode code 108 = .ok (.aload_n 1, 1) := by decide +kernel
theorem d_La_law_109 : decode code 109 = .ok (.aload_n 0, 1) := by decide +kernel
theorem d_La_law_11 : decode code 11 = .ok (.dup, 1) := by decide +kernel
theorem d_La_law_110 : decode code 110 = .ok (.iload 4, 2) := by decide +kernel
theorem d_La_law_112 : decode code 112 = .ok (.iconst 1, 1) := by decide +kernel
theorem d_La_law_113 : decode code 113 = .ok (.iadd, 1) := by decide +kernel
theorem d_La_law_114 : decode code 114 = .ok (.iaload, 1) := by decide +kernel
theorem d_La_law_115 : decode code 115 = .ok (.aload_n 0, 1) := by decide +kernel
theorem d_La_law_116 : decode code 116 = .ok (.iload 4, 2) := by decide +kernel
theorem d_La_law_118 : decode code 118 = .ok (.iconst 2, 1) := by decide +kernel
theorem d_La_law_119 : decode code 119 = .ok (.iadd, 1) := by decide +kernel
theorem d_La_law_12 : decode code 12 = .ok (.invokespecial 57, 3) := by decide +kernel
theorem d_La_law_120 : decode code 120 = .ok (.iaload, 1) := by decide +kernel
theorem d_La_law_121 : decode code 121 = .ok (.aload_n 0, 1) := by decide +kernel
theorem d_La_law_122 : decode code 122 = .ok (.iload 4, 2) := by decide +kernel
theorem d_La_law_124 : decode code 124 = .ok (.iconst 3, 1) := by decide +kernel
theorem d_La_law_125 : decode code 125 = .ok (.iadd, 1) := by decide +kernel
theorem d_La_law_126 : decode code 126 = .ok (.iaload, 1) := by decide +kernel
theorem d_La_law_127 : decode code 127 = .ok (.aload_n 3, 1) := by decide +kernel
theorem d_La_law_128 : decode code 128 = .ok (.invokestatic 58, 3) := by decide +kernel
theorem d_La_law_131 : decode code 131 = .ok (.istore 5, 2) := by decide +kernel
theorem d_La_law_133 : decode code 133 = .ok (.aload_n 2, 1) := by decide +kernel
theorem d_La_law_134 : decode code 134 = .ok (.aload_n 0, 1) := by decide +kernel
theorem d_La_law_135 : decode code 135 = .ok (.iload 4, 2) := by decide +kernel
theorem d_La_law_137 : decode code 137 = .ok (.iconst 1, 1) := by decide +kernel
theorem d_La_law_138 : decode code 138 = .ok (.iadd, 1) := by decide +kernel
theorem d_La_law_139 : decode code 139 = .ok (.iaload, 1) := by decide +kernel
theorem d_La_law_140 : decode code 140 = .ok (.aload_n 0, 1) := by decide +kernel
theorem d_La_law_141 : decode code 141 = .ok (.iload 4, 2) := by decide +kernel
theorem d_La_law_143 : decode code 143 = .ok (.iconst 2, 1) := by decide +kernel
theorem d_La_law_144 : decode code 144 = .ok (.iadd, 1) := by decide +kernel
theorem d_La_law_145 : decode code 145 = .ok (.iaload, 1) := by decide +kernel
theorem d_La_law_146 : decode code 146 = .ok (.aload_n 0, 1) := by decide +kernel
theorem d_La_law_147 : decode code 147 = .ok (.iload 4, 2) := by decide +kernel
theorem d_La_law_149 : decode code 149 = .ok (.iconst 3, 1) := by decide +kernel
theorem d_La_law_15 : decode code 15 = .ok (.astore_n 2, 1) := by decide +kernel
theorem d_La_law_150 : decode code 150 = .ok (.iadd, 1) := by decide +kernel
theorem d_La_law_151 : decode code 151 = .ok (.iaload, 1) := by decide +kernel
theorem d_La_law_152 : decode code 152 = .ok (.invokevirtual 63, 3) := by decide +kernel
theorem d_La_law_155 : decode code 155 = .ok (.istore 6, 2) := by decide +kernel
theorem d_La_law_157 : decode code 157 = .ok (.aload_n 2, 1) := by decide +kernel
theorem d_La_law_158 : decode code 158 = .ok (.invokevirtual 64, 3) := by decide +kernel
theorem d_La_law_16 : decode code 16 = .ok (.iconst 1, 1) := by decide +kernel
theorem d_La_law_161 : decode code 161 = .ok (.iload 5, 2) := by decide +kernel
theorem d_La_law_163 : decode code 163 = .ok (.if_icmp .eq 5, 3) := by decide +kernel
theorem d_La_law_168 : decode code 168 = .ok (.iload 5, 2) := by decide +kernel
theorem d_La_law_17 : decode code 17 = .ok (.newarray .long, 2) := by decide +kernel
theorem d_La_law_170 : decode code 170 = .ok (.ifCond .ne 15, 3) := by decide +kernel
theorem d_La_law_173 : decode code 173 = .ok (.aload_n 3, 1) := by decide +kernel
theorem d_La_law_174 : decode code 174 = .ok (.iconst 0, 1) := by decide +kernel
theorem d_La_law_175 : decode code 175 = .ok (.laload, 1) := by decide +kernel
theorem d_La_law_176 : decode code 176 = .ok (.iload 6, 2) := by decide +kernel
theorem d_La_law_178 : decode code 178 = .ok (.i2l, 1) := by decide +kernel
theorem d_La_law_179 : decode code 179 = .ok (.lcmp, 1) := by decide +kernel
theorem d_La_law_180 : decode code 180 = .ok (.ifCond .eq 5, 3) := by decide +kernel
theorem d_La_law_185 : decode code 185 = .ok (.goto 715, 3) := by decide +kernel
theorem d_La_law_188 : decode code 188 = .ok (.aload_n 1, 1) := by decide +kernel
theorem d_La_law_189 : decode code 189 = .ok (.aload_n 0, 1) := by decide +kernel
theorem d_La_law_19 : decode code 19 = .ok (.astore_n 3, 1) := by decide +kernel
theorem d_La_law_190 : decode code 190 = .ok (.iload 4, 2) := by decide +kernel
theorem d_La_law_192 : decode code 192 = .ok (.iconst 1, 1) := by decide +kernel
theorem d_La_law_193 : decode code 193 = .ok (.iadd, 1) := by decide +kernel
theorem d_La_law_194 : decode code 194 = .ok (.iaload, 1) := by decide +kernel
theorem d_La_law_195 : decode code 195 = .ok (.aload_n 0, 1) := by decide +kernel
theorem d_La_law_196 : decode code 196 = .ok (.iload 4, 2) := by decide +kernel
theorem d_La_law_198 : decode code 198 = .ok (.iconst 2, 1) := by decide +kernel
theorem d_La_law_199 : decode code 199 = .ok (.iadd, 1) := by decide +kernel
theorem d_La_law_20 : decode code 20 = .ok (.iconst 0, 1) := by decide +kernel
theorem d_La_law_200 : decode code 200 = .ok (.iaload, 1) := by decide +kernel
theorem d_La_law_201 : decode code 201 = .ok (.aload_n 0, 1) := by decide +kernel
theorem d_La_law_202 : decode code 202 = .ok (.iload 4, 2) := by decide +kernel
theorem d_La_law_204 : decode code 204 = .ok (.iconst 3, 1) := by decide +kernel
theorem d_La_law_205 : decode code 205 = .ok (.iadd, 1) := by decide +kernel
theorem d_La_law_206 : decode code 206 = .ok (.iaload, 1) := by decide +kernel
theorem d_La_law_207 : decode code 207 = .ok (.aload_n 0, 1) := by decide +kernel
theorem d_La_law_208 : decode code 208 = .ok (.iload 4, 2) := by decide +kernel
theorem d_La_law_21 : decode code 21 = .ok (.istore 4, 2) := by decide +kernel
theorem d_La_law_210 : decode code 210 = .ok (.iconst 4, 1) := by decide +kernel
theorem d_La_law_211 : decode code 211 = .ok (.iadd, 1) := by decide +kernel
theorem d_La_law_212 : decode code 212 = .ok (.iaload, 1) := by decide +kernel
theorem d_La_law_213 : decode code 213 = .ok (.aload_n 0, 1) := by decide +kernel
theorem d_La_law_214 : decode code 214 = .ok (.iload 4, 2) := by decide +kernel
theorem d_La_law_216 : decode code 216 = .ok (.iconst 5, 1) := by decide +kernel
theorem d_La_law_217 : decode code 217 = .ok (.iadd, 1) := by decide +kernel
theorem d_La_law_218 : decode code 218 = .ok (.iaload, 1) := by decide +kernel
theorem d_La_law_219 : decode code 219 = .ok (.aload_n 3, 1) := by decide +kernel
theorem d_La_law_220 : decode code 220 = .ok (.invokestatic 67, 3) := by decide +kernel
theorem d_La_law_223 : decode code 223 = .ok (.istore 5, 2) := by decide +kernel
theorem d_La_law_225 : decode code 225 = .ok (.aload_n 2, 1) := by decide +kernel
theorem d_La_law_226 : decode code 226 = .ok (.aload_n 0, 1) := by decide +kernel
theorem d_La_law_227 : decode code 227 = .ok (.iload 4, 2) := by decide +kernel
theorem d_La_law_229 : decode code 229 = .ok (.iconst 1, 1) := by decide +kernel
theorem d_La_law_23 : decode code 23 = .ok (.iload 4, 2) := by decide +kernel
theorem d_La_law_230 : decode code 230 = .ok (.iadd, 1) := by decide +kernel
theorem d_La_law_231 : decode code 231 = .ok (.iaload, 1) := by decide +kernel
theorem d_La_law_232 : decode code 232 = .ok (.aload_n 0, 1) := by decide +kernel
theorem d_La_law_233 : decode code 233 = .ok (.iload 4, 2) := by decide +kernel
theorem d_La_law_235 : decode code 235 = .ok (.iconst 2, 1) := by decide +kernel
theorem d_La_law_236 : decode code 236 = .ok (.iadd, 1) := by decide +kernel
theorem d_La_law_237 : decode code 237 = .ok (.iaload, 1) := by decide +kernel
theorem d_La_law_238 : decode code 238 = .ok (.aload_n 0, 1) := by decide +kernel
theorem d_La_law_239 : decode code 239 = .ok (.iload 4, 2) := by decide +kernel
theorem d_La_law_241 : decode code 241 = .ok (.iconst 3, 1) := by decide +kernel
theorem d_La_law_242 : decode code 242 = .ok (.iadd, 1) := by decide +kernel
theorem d_La_law_243 : decode code 243 = .ok (.iaload, 1) := by decide +kernel
theorem d_La_law_244 : decode code 244 = .ok (.aload_n 0, 1) := by decide +kernel
theorem d_La_law_245 : decode code 245 = .ok (.iload 4, 2) := by decide +kernel
theorem d_La_law_247 : decode code 247 = .ok (.iconst 4, 1) := by decide +kernel
theorem d_La_law_248 : decode code 248 = .ok (.iadd, 1) := by decide +kernel
theorem d_La_law_249 : decode code 249 = .ok (.iaload, 1) := by decide +kernel
theorem d_La_law_25 : decode code 25 = .ok (.aload_n 0, 1) := by decide +kernel
theorem d_La_law_250 : decode code 250 = .ok (.aload_n 0, 1) := by decide +kernel
theorem d_La_law_251 : decode code 251 = .ok (.iload 4, 2) := by decide +kernel
theorem d_La_law_253 : decode code 253 = .ok (.iconst 5, 1) := by decide +kernel
theorem d_La_law_254 : decode code 254 = .ok (.iadd, 1) := by decide +kernel
theorem d_La_law_255 : decode code 255 = .ok (.iaload, 1) := by decide +kernel
theorem d_La_law_256 : decode code 256 = .ok (.invokevirtual 70, 3) := by decide +kernel
theorem d_La_law_259 : decode code 259 = .ok (.istore 6, 2) := by decide +kernel
theorem d_La_law_26 : decode code 26 = .ok (.arraylength, 1) := by decide +kernel
theorem d_La_law_261 : decode code 261 = .ok (.aload_n 2, 1) := by decide +kernel
theorem d_La_law_262 : decode code 262 = .ok (.invokevirtual 64, 3) := by decide +kernel
theorem d_La_law_265 : decode code 265 = .ok (.iload 5, 2) := by decide +kernel
theorem d_La_law_267 : decode code 267 = .ok (.if_icmp .eq 5, 3) := by decide +kernel
theorem d_La_law_27 : decode code 27 = .ok (.bipush 6, 2) := by decide +kernel
theorem d_La_law_272 : decode code 272 = .ok (.iload 5, 2) := by decide +kernel
theorem d_La_law_274 : decode code 274 = .ok (.ifCond .ne 15, 3) := by decide +kernel
theorem d_La_law_277 : decode code 277 = .ok (.aload_n 3, 1) := by decide +kernel
theorem d_La_law_278 : decode code 278 = .ok (.iconst 0, 1) := by decide +kernel
theorem d_La_law_279 : decode code 279 = .ok (.laload, 1) := by decide +kernel
theorem d_La_law_280 : decode code 280 = .ok (.iload 6, 2) := by decide +kernel
theorem d_La_law_282 : decode code 282 = .ok (.i2l, 1) := by decide +kernel
theorem d_La_law_283 : decode code 283 = .ok (.lcmp, 1) := by decide +kernel
theorem d_La_law_284 : decode code 284 = .ok (.ifCond .eq 5, 3) := by decide +kernel
theorem d_La_law_289 : decode code 289 = .ok (.goto 611, 3) := by decide +kernel
theorem d_La_law_29 : decode code 29 = .ok (.isub, 1) := by decide +kernel
theorem d_La_law_292 : decode code 292 = .ok (.aload_n 1, 1) := by decide +kernel
theorem d_La_law_293 : decode code 293 = .ok (.aload_n 3, 1) := by decide +kernel
theorem d_La_law_294 : decode code 294 = .ok (.invokestatic 71, 3) := by decide +kernel
theorem d_La_law_297 : decode code 297 = .ok (.istore 5, 2) := by decide +kernel
theorem d_La_law_299 : decode code 299 = .ok (.aload_n 2, 1) := by decide +kernel
theorem d_La_law_3 : decode code 3 = .ok (.dup, 1) := by decide +kernel
theorem d_La_law_30 : decode code 30 = .ok (.if_icmp .gt 876, 3) := by decide +kernel
theorem d_La_law_300 : decode code 300 = .ok (.invokevirtual 74, 3) := by decide +kernel
theorem d_La_law_303 : decode code 303 = .ok (.istore 6, 2) := by decide +kernel
theorem d_La_law_305 : decode code 305 = .ok (.aload_n 2, 1) := by decide +kernel
theorem d_La_law_306 : decode code 306 = .ok (.invokevirtual 64, 3) := by decide +kernel
theorem d_La_law_309 : decode code 309 = .ok (.iload 5, 2) := by decide +kernel
theorem d_La_law_311 : decode code 311 = .ok (.if_icmp .eq 5, 3) := by decide +kernel
theorem d_La_law_316 : decode code 316 = .ok (.iload 5, 2) := by decide +kernel
theorem d_La_law_318 : decode code 318 = .ok (.ifCond .ne 15, 3) := by decide +kernel
theorem d_La_law_33 : decode code 33 = .ok (.aload_n 0, 1) := by decide +kernel
theorem d_La_law_333 : decode code 333 = .ok (.goto 567, 3) := by decide +kernel
theorem d_La_law_336 : decode code 336 = .ok (.aload_n 1, 1) := by decide +kernel
theorem d_La_law_337 : decode code 337 = .ok (.invokevirtual 75, 3) := by decide +kernel
theorem d_La_law_34 : decode code 34 = .ok (.iload 4, 2) := by decide +kernel
theorem d_La_law_340 : decode code 340 = .ok (.aload_n 2, 1) := by decide +kernel
theorem d_La_law_341 : decode code 341 = .ok (.invokevirtual 78, 3) := by decide +kernel
theorem d_La_law_344 : decode code 344 = .ok (.goto 556, 3) := by decide +kernel
theorem d_La_law_347 : decode code 347 = .ok (.aload_n 1, 1) := by decide +kernel
theorem d_La_law_348 : decode code 348 = .ok (.aload_n 0, 1) := by decide +kernel
theorem d_La_law_349 : decode code 349 = .ok (.iload 4, 2) := by decide +kernel
theorem d_La_law_351 : decode code 351 = .ok (.iconst 1, 1) := by decide +kernel
theorem d_La_law_352 : decode code 352 = .ok (.iadd, 1) := by decide +kernel
theorem d_La_law_353 : decode code 353 = .ok (.iaload, 1) := by decide +kernel
theorem d_La_law_354 : decode code 354 = .ok (.aload_n 0, 1) := by decide +kernel
theorem d_La_law_355 : decode code 355 = .ok (.iload 4, 2) := by decide +kernel
theorem d_La_law_357 : decode code 357 = .ok (.iconst 2, 1) := by decide +kernel
theorem d_La_law_358 : decode code 358 = .ok (.iadd, 1) := by decide +kernel
theorem d_La_law_359 : decode code 359 = .ok (.iaload, 1) := by decide +kernel
theorem d_La_law_36 : decode code 36 = .ok (.iaload, 1) := by decide +kernel
theorem d_La_law_360 : decode code 360 = .ok (.aload_n 0, 1) := by decide +kernel
theorem d_La_law_361 : decode code 361 = .ok (.iload 4, 2) := by decide +kernel
theorem d_La_law_363 : decode code 363 = .ok (.iconst 3, 1) := by decide +kernel
theorem d_La_law_364 : decode code 364 = .ok (.iadd, 1) := by decide +kernel
theorem d_La_law_365 : decode code 365 = .ok (.iaload, 1) := by decide +kernel
theorem d_La_law_366 : decode code 366 = .ok (.aload_n 0, 1) := by decide +kernel
theorem d_La_law_367 : decode code 367 = .ok (.iload 4, 2) := by decide +kernel
theorem d_La_law_369 : decode code 369 = .ok (.iconst 4, 1) := by decide +kernel
theorem d_La_law_37 : decode code 37 = .ok (.bipush 15, 2) := by decide +kernel
theorem d_La_law_370 : decode code 370 = .ok (.iadd, 1) := by decide +kernel
theorem d_La_law_371 : decode code 371 = .ok (.iaload, 1) := by decide +kernel
theorem d_La_law_372 : decode code 372 = .ok (.aload_n 0, 1) := by decide +kernel
theorem d_La_law_373 : decode code 373 = .ok (.iload 4, 2) := by decide +kernel
theorem d_La_law_375 : decode code 375 = .ok (.iconst 5, 1) := by decide +kernel
theorem d_La_law_376 : decode code 376 = .ok (.iadd, 1) := by decide +kernel
theorem d_La_law_377 : decode code 377 = .ok (.iaload, 1) := by decide +kernel
theorem d_La_law_378 : decode code 378 = .ok (.aload_n 3, 1) := by decide +kernel
theorem d_La_law_379 : decode code 379 = .ok (.invokestatic 79, 3) := by decide +kernel
theorem d_La_law_382 : decode code 382 = .ok (.istore 5, 2) := by decide +kernel
theorem d_La_law_384 : decode code 384 = .ok (.aload_n 2, 1) := by decide +kernel
theorem d_La_law_385 : decode code 385 = .ok (.aload_n 0, 1) := by decide +kernel
theorem d_La_law_386 : decode code 386 = .ok (.iload 4, 2) := by decide +kernel
theorem d_La_law_388 : decode code 388 = .ok (.iconst 1, 1) := by decide +kernel
theorem d_La_law_389 : decode code 389 = .ok (.iadd, 1) := by decide +kernel
theorem d_La_law_39 : decode code 39 = .ok (.iand, 1) := by decide +kernel
theorem d_La_law_390 : decode code 390 = .ok (.iaload, 1) := by decide +kernel
theorem d_La_law_391 : decode code 391 = .ok (.aload_n 0, 1) := by decide +kernel
theorem d_La_law_392 : decode code 392 = .ok (.iload 4, 2) := by decide +kernel
theorem d_La_law_394 : decode code 394 = .ok (.iconst 2, 1) := by decide +kernel
theorem d_La_law_395 : decode code 395 = .ok (.iadd, 1) := by decide +kernel
theorem d_La_law_396 : decode code 396 = .ok (.iaload, 1) := by decide +kernel
theorem d_La_law_397 : decode code 397 = .ok (.aload_n 0, 1) := by decide +kernel
theorem d_La_law_398 : decode code 398 = .ok (.iload 4, 2) := by decide +kernel
theorem d_La_law_4 : decode code 4 = .ok (.invokespecial 54, 3) := by decide +kernel
theorem d_La_law_40 : decode code 40 = .ok (.tableswitch 860 0 12 #[68, 148, 252, 296, 307, 411, 467, 522, 565, 621, 701, 756, 835], 68) := by decide +kernel
theorem d_La_law_400 : decode code 400 = .ok (.iconst 3, 1) := by decide +kernel
theorem d_La_law_401 : decode code 401 = .ok (.iadd, 1) := by decide +kernel
theorem d_La_law_402 : decode code 402 = .ok (.iaload, 1) := by decide +kernel
theorem d_La_law_403 : decode code 403 = .ok (.aload_n 0, 1) := by decide +kernel
theorem d_La_law_404 : decode code 404 = .ok (.iload 4, 2) := by decide +kernel
theorem d_La_law_406 : decode code 406 = .ok (.iconst 4, 1) := by decide +kernel
theorem d_La_law_407 : decode code 407 = .ok (.iadd, 1) := by decide +kernel
theorem d_La_law_408 : decode code 408 = .ok (.iaload, 1) := by decide +kernel
theorem d_La_law_409 : decode code 409 = .ok (.aload_n 0, 1) := by decide +kernel
theorem d_La_law_410 : decode code 410 = .ok (.iload 4, 2) := by decide +kernel
theorem d_La_law_412 : decode code 412 = .ok (.iconst 5, 1) := by decide +kernel
theorem d_La_law_413 : decode code 413 = .ok (.iadd, 1) := by decide +kernel
theorem d_La_law_414 : decode code 414 = .ok (.iaload, 1) := by decide +kernel
theorem d_La_law_415 : decode code 415 = .ok (.invokevirtual 81, 3) := by decide +kernel
theorem d_La_law_418 : decode code 418 = .ok (.istore 6, 2) := by decide +kernel
theorem d_La_law_420 : decode code 420 = .ok (.aload_n 2, 1) := by decide +kernel
theorem d_La_law_421 : decode code 421 = .ok (.invokevirtual 64, 3) := by decide +kernel
theorem d_La_law_424 : decode code 424 = .ok (.iload 5, 2) := by decide +kernel
theorem d_La_law_426 : decode code 426 = .ok (.if_icmp .eq 5, 3) := by decide +kernel
theorem d_La_law_431 : decode code 431 = .ok (.iload 5, 2) := by decide +kernel
theorem d_La_law_433 : decode code 433 = .ok (.ifCond .ne 15, 3) := by decide +kernel
theorem d_La_law_436 : decode code 436 = .ok (.aload_n 3, 1) := by decide +kernel
theorem d_La_law_437 : decode code 437 = .ok (.iconst 0, 1) := by decide +kernel
theorem d_La_law_438 : decode code 438 = .ok (.laload, 1) := by decide +kernel
theorem d_La_law_439 : decode code 439 = .ok (.iload 6, 2) := by decide +kernel
theorem d_La_law_441 : decode code 441 = .ok (.i2l, 1) := by decide +kernel
theorem d_La_law_442 : decode code 442 = .ok (.lcmp, 1) := by decide +kernel
theorem d_La_law_443 : decode code 443 = .ok (.ifCond .eq 5, 3) := by decide +kernel
theorem d_La_law_448 : decode code 448 = .ok (.goto 452, 3) := by decide +kernel
theorem d_La_law_451 : decode code 451 = .ok (.aload_n 1, 1) := by decide +kernel
theorem d_La_law_452 : decode code 452 = .ok (.aload_n 0, 1) := by decide +kernel
theorem d_La_law_453 : decode code 453 = .ok (.iload 4, 2) := by decide +kernel
theorem d_La_law_455 : decode code 455 = .ok (.iconst 1, 1) := by decide +kernel
theorem d_La_law_456 : decode code 456 = .ok (.iadd, 1) := by decide +kernel
theorem d_La_law_457 : decode code 457 = .ok (.iaload, 1) := by decide +kernel
theorem d_La_law_458 : decode code 458 = .ok (.aload_n 3, 1) := by decide +kernel
theorem d_La_law_459 : decode code 459 = .ok (.invokestatic 82, 3) := by decide +kernel
theorem d_La_law_462 : decode code 462 = .ok (.istore 5, 2) := by decide +kernel
theorem d_La_law_464 : decode code 464 = .ok (.aload_n 2, 1) := by decide +kernel
theorem d_La_law_465 : decode code 465 = .ok (.aload_n 0, 1) := by decide +kernel
theorem d_La_law_466 : decode code 466 = .ok (.iload 4, 2) := by decide +kernel
theorem d_La_law_468 : decode code 468 = .ok (.iconst 1, 1) := by decide +kernel
theorem d_La_law_469 : decode code 469 = .ok (.iadd, 1) := by decide +kernel
theorem d_La_law_470 : decode code 470 = .ok (.iaload, 1) := by decide +kernel
theorem d_La_law_471 : decode code 471 = .ok (.invokevirtual 85, 3) := by decide +kernel
theorem d_La_law_474 : decode code 474 = .ok (.istore 6, 2) := by decide +kernel
theorem d_La_law_476 : decode code 476 = .ok (.aload_n 2, 1) := by decide +kernel
theorem d_La_law_477 : decode code 477 = .ok (.invokevirtual 64, 3) := by decide +kernel
theorem d_La_law_480 : decode code 480 = .ok (.iload 5, 2) := by decide +kernel
theorem d_La_law_482 : decode code 482 = .ok (.if_icmp .eq 5, 3) := by decide +kernel
theorem d_La_law_487 : decode code 487 = .ok (.iload 5, 2) := by decide +kernel
theorem d_La_law_489 : decode code 489 = .ok (.ifCond .ne 15, 3) := by decide +kernel
theorem d_La_law_492 : decode code 492 = .ok (.aload_n 3, 1) := by decide +kernel
theorem d_La_law_493 : decode code 493 = .ok (.iconst 0, 1) := by decide +kernel
theorem d_La_law_494 : decode code 494 = .ok (.laload, 1) := by decide +kernel
theorem d_La_law_495 : decode code 495 = .ok (.iload 6, 2) := by decide +kernel
theorem d_La_law_497 : decode code 497 = .ok (.i2l, 1) := by decide +kernel
theorem d_La_law_498 : decode code 498 = .ok (.lcmp, 1) := by decide +kernel
theorem d_La_law_499 : decode code 499 = .ok (.ifCond .eq 5, 3) := by decide +kernel
theorem d_La_law_504 : decode code 504 = .ok (.goto 396, 3) := by decide +kernel
theorem d_La_law_507 : decode code 507 = .ok (.aload_n 1, 1) := by decide +kernel
theorem d_La_law_508 : decode code 508 = .ok (.aload_n 0, 1) := by decide +kernel
theorem d_La_law_509 : decode code 509 = .ok (.iload 4, 2) := by decide +kernel
theorem d_La_law_511 : decode code 511 = .ok (.iconst 1, 1) := by decide +kernel
theorem d_La_law_512 : decode code 512 = .ok (.iadd, 1) := by decide +kernel
theorem d_La_law_513 : decode code 513 = .ok (.iaload, 1) := by decide +kernel
theorem d_La_law_514 : decode code 514 = .ok (.i2l, 1) := by decide +kernel
theorem d_La_law_515 : decode code 515 = .ok (.bipush 32, 2) := by decide +kernel
theorem d_La_law_517 : decode code 517 = .ok (.lshl, 1) := by decide +kernel
theorem d_La_law_518 : decode code 518 = .ok (.aload_n 0, 1) := by decide +kernel
theorem d_La_law_519 : decode code 519 = .ok (.iload 4, 2) := by decide +kernel
theorem d_La_law_521 : decode code 521 = .ok (.iconst 2, 1) := by decide +kernel
theorem d_La_law_522 : decode code 522 = .ok (.iadd, 1) := by decide +kernel
theorem d_La_law_523 : decode code 523 = .ok (.iaload, 1) := by decide +kernel
theorem d_La_law_524 : decode code 524 = .ok (.i2l, 1) := by decide +kernel
theorem d_La_law_525 : decode code 525 = .ok (.ldc2_w 86, 3) := by decide +kernel
theorem d_La_law_528 : decode code 528 = .ok (.land, 1) := by decide +kernel
theorem d_La_law_529 : decode code 529 = .ok (.lor, 1) := by decide +kernel
theorem d_La_law_530 : decode code 530 = .ok (.invokevirtual 88, 3) := by decide +kernel
theorem d_La_law_533 : decode code 533 = .ok (.aload_n 2, 1) := by decide +kernel
theorem d_La_law_534 : decode code 534 = .ok (.aload_n 0, 1) := by decide +kernel
theorem d_La_law_535 : decode code 535 = .ok (.iload 4, 2) := by decide +kernel
theorem d_La_law_537 : decode code 537 = .ok (.iconst 1, 1) := by decide +kernel
theorem d_La_law_538 : decode code 538 = .ok (.iadd, 1) := by decide +kernel
theorem d_La_law_539 : decode code 539 = .ok (.iaload, 1) := by decide +kernel
theorem d_La_law_540 : decode code 540 = .ok (.i2l, 1) := by decide +kernel
theorem d_La_law_541 : decode code 541 = .ok (.bipush 32, 2) := by decide +kernel
theorem d_La_law_543 : decode code 543 = .ok (.lshl, 1) := by decide +kernel
theorem d_La_law_544 : decode code 544 = .ok (.aload_n 0, 1) := by decide +kernel
theorem d_La_law_545 : decode code 545 = .ok (.iload 4, 2) := by decide +kernel
theorem d_La_law_547 : decode code 547 = .ok (.iconst 2, 1) := by decide +kernel
theorem d_La_law_548 : decode code 548 = .ok (.iadd, 1) := by decide +kernel
theorem d_La_law_549 : decode code 549 = .ok (.iaload, 1) := by decide +kernel
theorem d_La_law_550 : decode code 550 = .ok (.i2l, 1) := by decide +kernel
theorem d_La_law_551 : decode code 551 = .ok (.ldc2_w 86, 3) := by decide +kernel
theorem d_La_law_554 : decode code 554 = .ok (.land, 1) := by decide +kernel
theorem d_La_law_555 : decode code 555 = .ok (.lor, 1) := by decide +kernel
theorem d_La_law_556 : decode code 556 = .ok (.invokevirtual 92, 3) := by decide +kernel
theorem d_La_law_559 : decode code 559 = .ok (.goto 341, 3) := by decide +kernel
theorem d_La_law_562 : decode code 562 = .ok (.aload_n 1, 1) := by decide +kernel
theorem d_La_law_563 : decode code 563 = .ok (.aload_n 3, 1) := by decide +kernel
theorem d_La_law_564 : decode code 564 = .ok (.invokestatic 93, 3) := by decide +kernel
theorem d_La_law_567 : decode code 567 = .ok (.istore 5, 2) := by decide +kernel
theorem d_La_law_569 : decode code 569 = .ok (.aload_n 2, 1) := by decide +kernel
theorem d_La_law_570 : decode code 570 = .ok (.invokevirtual 95, 3) := by decide +kernel
theorem d_La_law_573 : decode code 573 = .ok (.lstore 6, 2) := by decide +kernel
theorem d_La_law_575 : decode code 575 = .ok (.aload_n 2, 1) := by decide +kernel
theorem d_La_law_576 : decode code 576 = .ok (.invokevirtual 64, 3) := by decide +kernel
theorem d_La_law_579 : decode code 579 = .ok (.iload 5, 2) := by decide +kernel
theorem d_La_law_581 : decode code 581 = .ok (.if_icmp .eq 5, 3) := by decide +kernel
theorem d_La_law_586 : decode code 586 = .ok (.iload 5, 2) := by decide +kernel
theorem d_La_law_588 : decode code 588 = .ok (.ifCond .ne 14, 3) := by decide +kernel
theorem d_La_law_602 : decode code 602 = .ok (.goto 298, 3) := by decide +kernel
theorem d_La_law_605 : decode code 605 = .ok (.aload_n 1, 1) := by decide +kernel
theorem d_La_law_606 : decode code 606 = .ok (.aload_n 0, 1) := by decide +kernel
theorem d_La_law_607 : decode code 607 = .ok (.iload 4, 2) := by decide +kernel
theorem d_La_law_609 : decode code 609 = .ok (.iconst 1, 1) := by decide +kernel
theorem d_La_law_610 : decode code 610 = .ok (.iadd, 1) := by decide +kernel
theorem d_La_law_611 : decode code 611 = .ok (.iaload, 1) := by decide +kernel
theorem d_La_law_612 : decode code 612 = .ok (.aload_n 3, 1) := by decide +kernel
theorem d_La_law_613 : decode code 613 = .ok (.invokestatic 96, 3) := by decide +kernel
