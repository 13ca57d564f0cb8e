theorem kw_poke : Kw y_La_poke b_La_poke 4 (0, 6, 9, 13) 3 := ⟨m_358, m_0, mw_poke, ⟨by decide, by decide⟩, by decide +kernel⟩
theorem kw_peek : Kw y_La_peek b_La_peek 4 (0, 9, 12, 13) 3 := ⟨m_441, m_0, mw_peek, ⟨by decide, by decide⟩, by decide +kernel⟩
theorem kw_write : Kw y_La_write b_La_write 4 (0, 6, 9, 13) 3 := ⟨m_452, m_0, mw_write, ⟨by decide, by decide⟩, by decide +kernel⟩
theorem kw_disk : Kw y_La_disk b_La_disk 5 (0, 7, 10, 13) 4 := ⟨m_499, m_0, mw_disk, ⟨by decide, by decide⟩, by decide +kernel⟩
theorem kw_sector : Kw y_La_sector b_La_sector 5 (0, 10, 13, 13) 4 := ⟨m_511, m_0, mw_sector, ⟨by decide, by decide⟩, by decide +kernel⟩
theorem kw_stick : Kw y_La_stick b_La_stick 3 (0, 5, 8, 13) 2 := ⟨m_522, m_0, mw_stick, ⟨by decide, by decide⟩, by decide +kernel⟩
theorem kw_run : Kw y_La_run b_La_run 4 (0, 9, 12, 13) 3 := ⟨m_529, m_0, mw_run, ⟨by decide, by decide⟩, by decide +kernel⟩
theorem kw_dot : Kw y_La_dot b_La_dot 5 (0, 10, 13, 40) 4 := ⟨m_743, m_0, mw_dot, ⟨by decide, by decide⟩, by decide +kernel⟩
theorem d_La_law_0 : decode code 0 = .ok (.new 8, 3) := by decide +kernel
theorem d_La_law_3 : decode code 3 = .ok (.dup, 1) := by decide +kernel
theorem d_La_law_4 : decode code 4 = .ok (.invokespecial 42, 3) := by decide +kernel
theorem d_La_law_7 : decode code 7 = .ok (.astore_n 1, 1) := by decide +kernel
theorem d_La_law_8 : decode code 8 = .ok (.new 43, 3) := by decide +kernel
theorem d_La_law_11 : decode code 11 = .ok (.dup, 1) := by decide +kernel
theorem d_La_law_12 : decode code 12 = .ok (.invokespecial 45, 3) := by decide +kernel
theorem d_La_law_15 : decode code 15 = .ok (.astore_n 2, 1) := by decide +kernel
theorem d_La_law_16 : decode code 16 = .ok (.iconst 1, 1) := by decide +kernel
theorem d_La_law_17 : decode code 17 = .ok (.newarray .long, 2) := by decide +kernel
theorem d_La_law_19 : decode code 19 = .ok (.astore_n 3, 1) := by decide +kernel
theorem d_La_law_20 : decode code 20 = .ok (.iconst 0, 1) := by decide +kernel
theorem d_La_law_21 : decode code 21 = .ok (.istore 4, 2) := by decide +kernel
theorem d_La_law_23 : decode code 23 = .ok (.iload 4, 2) := by decide +kernel
theorem d_La_law_25 : decode code 25 = .ok (.aload_n 0, 1) := by decide +kernel
theorem d_La_law_26 : decode code 26 = .ok (.arraylength, 1) := by decide +kernel
theorem d_La_law_27 : decode code 27 = .ok (.iconst 4, 1) := by decide +kernel
theorem d_La_law_28 : decode code 28 = .ok (.isub, 1) := by decide +kernel
theorem d_La_law_29 : decode code 29 = .ok (.if_icmp .gt 559, 3) := by decide +kernel
theorem d_La_law_32 : decode code 32 = .ok (.aload_n 0, 1) := by decide +kernel
theorem d_La_law_33 : decode code 33 = .ok (.iload 4, 2) := by decide +kernel
theorem d_La_law_35 : decode code 35 = .ok (.iaload, 1) := by decide +kernel
theorem d_La_law_36 : decode code 36 = .ok (.bipush 15, 2) := by decide +kernel
theorem d_La_law_38 : decode code 38 = .ok (.iand, 1) := by decide +kernel
theorem d_La_law_39 : decode code 39 = .ok (.tableswitch 543 0 9 #[53, 101, 157, 205, 265, 333, 369, 425, 493, 518], 53) := by decide +kernel
theorem d_La_law_92 : decode code 92 = .ok (.aload_n 1, 1) := by decide +kernel
theorem d_La_law_93 : decode code 93 = .ok (.aload_n 0, 1) := by decide +kernel
theorem d_La_law_94 : decode code 94 = .ok (.iload 4, 2) := by decide +kernel
theorem d_La_law_96 : decode code 96 = .ok (.iconst 1, 1) := by decide +kernel
theorem d_La_law_97 : decode code 97 = .ok (.iadd, 1) := by decide +kernel
theorem d_La_law_98 : decode code 98 = .ok (.iaload, 1) := by decide +kernel
theorem d_La_law_99 : decode code 99 = .ok (.aload_n 0, 1) := by decide +kernel
theorem d_La_law_100 : decode code 100 = .ok (.iload 4, 2) := by decide +kernel
theorem d_La_law_102 : decode code 102 = .ok (.iconst 2, 1) := by decide +kernel
theorem d_La_law_103 : decode code 103 = .ok (.iadd, 1) := by decide +kernel
theorem d_La_law_104 : decode code 104 = .ok (.iaload, 1) := by decide +kernel
theorem d_La_law_105 : decode code 105 = .ok (.invokestatic 46, 3) := by decide +kernel
theorem d_La_law_108 : decode code 108 = .ok (.istore 5, 2) := by decide +kernel
theorem d_La_law_110 : decode code 110 = .ok (.aload_n 2, 1) := by decide +kernel
theorem d_La_law_111 : decode code 111 = .ok (.aload_n 0, 1) := by decide +kernel
theorem d_La_law_112 : decode code 112 = .ok (.iload 4, 2) := by decide +kernel
theorem d_La_law_114 : decode code 114 = .ok (.iconst 1, 1) := by decide +kernel
theorem d_La_law_115 : decode code 115 = .ok (.iadd, 1) := by decide +kernel
theorem d_La_law_116 : decode code 116 = .ok (.iaload, 1) := by decide +kernel
theorem d_La_law_117 : decode code 117 = .ok (.aload_n 0, 1) := by decide +kernel
theorem d_La_law_118 : decode code 118 = .ok (.iload 4, 2) := by decide +kernel
theorem d_La_law_120 : decode code 120 = .ok (.iconst 2, 1) := by decide +kernel
theorem d_La_law_121 : decode code 121 = .ok (.iadd, 1) := by decide +kernel
theorem d_La_law_122 : decode code 122 = .ok (.iaload, 1) := by decide +kernel
theorem d_La_law_123 : decode code 123 = .ok (.invokevirtual 51, 3) := by decide +kernel
theorem d_La_law_126 : decode code 126 = .ok (.aload_n 2, 1) := by decide +kernel
theorem d_La_law_127 : decode code 127 = .ok (.invokevirtual 52, 3) := by decide +kernel
theorem d_La_law_130 : decode code 130 = .ok (.iload 5, 2) := by decide +kernel
theorem d_La_law_132 : decode code 132 = .ok (.if_icmp .eq 5, 3) := by decide +kernel
theorem d_La_law_135 : decode code 135 = .ok (.iconst 0, 1) := by decide +kernel
theorem d_La_law_136 : decode code 136 = .ok (.ireturn, 1) := by decide +kernel
theorem d_La_law_137 : decode code 137 = .ok (.goto 445, 3) := by decide +kernel
theorem d_La_law_140 : decode code 140 = .ok (.aload_n 1, 1) := by decide +kernel
theorem d_La_law_141 : decode code 141 = .ok (.aload_n 0, 1) := by decide +kernel
theorem d_La_law_142 : decode code 142 = .ok (.iload 4, 2) := by decide +kernel
theorem d_La_law_144 : decode code 144 = .ok (.iconst 1, 1) := by decide +kernel
theorem d_La_law_145 : decode code 145 = .ok (.iadd, 1) := by decide +kernel
theorem d_La_law_146 : decode code 146 = .ok (.iaload, 1) := by decide +kernel
theorem d_La_law_147 : decode code 147 = .ok (.aload_n 3, 1) := by decide +kernel
theorem d_La_law_148 : decode code 148 = .ok (.invokestatic 56, 3) := by decide +kernel
theorem d_La_law_151 : decode code 151 = .ok (.istore 5, 2) := by decide +kernel
theorem d_La_law_153 : decode code 153 = .ok (.aload_n 2, 1) := by decide +kernel
theorem d_La_law_154 : decode code 154 = .ok (.aload_n 0, 1) := by decide +kernel
theorem d_La_law_155 : decode code 155 = .ok (.iload 4, 2) := by decide +kernel
theorem d_La_law_157 : decode code 157 = .ok (.iconst 1, 1) := by decide +kernel
theorem d_La_law_158 : decode code 158 = .ok (.iadd, 1) := by decide +kernel
theorem d_La_law_159 : decode code 159 = .ok (.iaload, 1) := by decide +kernel
theorem d_La_law_160 : decode code 160 = .ok (.invokevirtual 59, 3) := by decide +kernel
theorem d_La_law_163 : decode code 163 = .ok (.istore 6, 2) := by decide +kernel
theorem d_La_law_165 : decode code 165 = .ok (.aload_n 2, 1) := by decide +kernel
theorem d_La_law_166 : decode code 166 = .ok (.invokevirtual 52, 3) := by decide +kernel
theorem d_La_law_169 : decode code 169 = .ok (.iload 5, 2) := by decide +kernel
theorem d_La_law_171 : decode code 171 = .ok (.if_icmp .eq 5, 3) := by decide +kernel
theorem d_La_law_174 : decode code 174 = .ok (.iconst 0, 1) := by decide +kernel
theorem d_La_law_175 : decode code 175 = .ok (.ireturn, 1) := by decide +kernel
theorem d_La_law_176 : decode code 176 = .ok (.iload 5, 2) := by decide +kernel
theorem d_La_law_178 : decode code 178 = .ok (.ifCond .ne 15, 3) := by decide +kernel
theorem d_La_law_181 : decode code 181 = .ok (.aload_n 3, 1) := by decide +kernel
theorem d_La_law_182 : decode code 182 = .ok (.iconst 0, 1) := by decide +kernel
theorem d_La_law_183 : decode code 183 = .ok (.laload, 1) := by decide +kernel
theorem d_La_law_184 : decode code 184 = .ok (.iload 6, 2) := by decide +kernel
theorem d_La_law_186 : decode code 186 = .ok (.i2l, 1) := by decide +kernel
theorem d_La_law_187 : decode code 187 = .ok (.lcmp, 1) := by decide +kernel
theorem d_La_law_188 : decode code 188 = .ok (.ifCond .eq 5, 3) := by decide +kernel
theorem d_La_law_191 : decode code 191 = .ok (.iconst 0, 1) := by decide +kernel
theorem d_La_law_192 : decode code 192 = .ok (.ireturn, 1) := by decide +kernel
theorem d_La_law_193 : decode code 193 = .ok (.goto 389, 3) := by decide +kernel
theorem d_La_law_196 : decode code 196 = .ok (.aload_n 1, 1) := by decide +kernel
theorem d_La_law_197 : decode code 197 = .ok (.aload_n 0, 1) := by decide +kernel
theorem d_La_law_198 : decode code 198 = .ok (.iload 4, 2) := by decide +kernel
theorem d_La_law_200 : decode code 200 = .ok (.iconst 1, 1) := by decide +kernel
theorem d_La_law_201 : decode code 201 = .ok (.iadd, 1) := by decide +kernel
theorem d_La_law_202 : decode code 202 = .ok (.iaload, 1) := by decide +kernel
theorem d_La_law_203 : decode code 203 = .ok (.aload_n 0, 1) := by decide +kernel
theorem d_La_law_204 : decode code 204 = .ok (.iload 4, 2) := by decide +kernel
theorem d_La_law_206 : decode code 206 = .ok (.iconst 2, 1) := by decide +kernel
theorem d_La_law_207 : decode code 207 = .ok (.iadd, 1) := by decide +kernel
theorem d_La_law_208 : decode code 208 = .ok (.iaload, 1) := by decide +kernel
theorem d_La_law_209 : decode code 209 = .ok (.invokestatic 60, 3) := by decide +kernel
theorem d_La_law_212 : decode code 212 = .ok (.istore 5, 2) := by decide +kernel
theorem d_La_law_214 : decode code 214 = .ok (.aload_n 2, 1) := by decide +kernel
theorem d_La_law_215 : decode code 215 = .ok (.aload_n 0, 1) := by decide +kernel
theorem d_La_law_216 : decode code 216 = .ok (.iload 4, 2) := by decide +kernel
theorem d_La_law_218 : decode code 218 = .ok (.iconst 1, 1) := by decide +kernel
theorem d_La_law_219 : decode code 219 = .ok (.iadd, 1) := by decide +kernel
theorem d_La_law_220 : decode code 220 = .ok (.iaload, 1) := by decide +kernel
theorem d_La_law_221 : decode code 221 = .ok (.aload_n 0, 1) := by decide +kernel
theorem d_La_law_222 : decode code 222 = .ok (.iload 4, 2) := by decide +kernel
theorem d_La_law_224 : decode code 224 = .ok (.iconst 2, 1) := by decide +kernel
theorem d_La_law_225 : decode code 225 = .ok (.iadd, 1) := by decide +kernel
theorem d_La_law_226 : decode code 226 = .ok (.iaload, 1) := by decide +kernel
theorem d_La_law_227 : decode code 227 = .ok (.invokevirtual 62, 3) := by decide +kernel
theorem d_La_law_230 : decode code 230 = .ok (.aload_n 2, 1) := by decide +kernel
theorem d_La_law_231 : decode code 231 = .ok (.invokevirtual 52, 3) := by decide +kernel
theorem d_La_law_234 : decode code 234 = .ok (.iload 5, 2) := by decide +kernel
theorem d_La_law_236 : decode code 236 = .ok (.if_icmp .eq 5, 3) := by decide +kernel
theorem d_La_law_239 : decode code 239 = .ok (.iconst 0, 1) := by decide +kernel
theorem d_La_law_240 : decode code 240 = .ok (.ireturn, 1) := by decide +kernel
theorem d_La_law_241 : decode code 241 = .ok (.goto 341, 3) := by decide +kernel
theorem d_La_law_244 : decode code 244 = .ok (.aload_n 1, 1) := by decide +kernel
theorem d_La_law_245 : decode code 245 = .ok (.aload_n 0, 1) := by decide +kernel
theorem d_La_law_246 : decode code 246 = .ok (.iload 4, 2) := by decide +kernel
theorem d_La_law_248 : decode code 248 = .ok (.iconst 1, 1) := by decide +kernel
theorem d_La_law_249 : decode code 249 = .ok (.iadd, 1) := by decide +kernel
theorem d_La_law_250 : decode code 250 = .ok (.iaload, 1) := by decide +kernel
theorem d_La_law_251 : decode code 251 = .ok (.aload_n 0, 1) := by decide +kernel
theorem d_La_law_252 : decode code 252 = .ok (.iload 4, 2) := by decide +kernel
theorem d_La_law_254 : decode code 254 = .ok (.iconst 2, 1) := by decide +kernel
theorem d_La_law_255 : decode code 255 = .ok (.iadd, 1) := by decide +kernel
theorem d_La_law_256 : decode code 256 = .ok (.iaload, 1) := by decide +kernel
theorem d_La_law_257 : decode code 257 = .ok (.aload_n 0, 1) := by decide +kernel
theorem d_La_law_258 : decode code 258 = .ok (.iload 4, 2) := by decide +kernel
theorem d_La_law_260 : decode code 260 = .ok (.iconst 3, 1) := by decide +kernel
theorem d_La_law_261 : decode code 261 = .ok (.iadd, 1) := by decide +kernel
theorem d_La_law_262 : decode code 262 = .ok (.iaload, 1) := by decide +kernel
theorem d_La_law_263 : decode code 263 = .ok (.invokestatic 63, 3) := by decide +kernel
theorem d_La_law_266 : decode code 266 = .ok (.istore 5, 2) := by decide +kernel
theorem d_La_law_268 : decode code 268 = .ok (.aload_n 2, 1) := by decide +kernel
theorem d_La_law_269 : decode code 269 = .ok (.aload_n 0, 1) := by decide +kernel
theorem d_La_law_270 : decode code 270 = .ok (.iload 4, 2) := by decide +kernel
theorem d_La_law_272 : decode code 272 = .ok (.iconst 1, 1) := by decide +kernel
theorem d_La_law_273 : decode code 273 = .ok (.iadd, 1) := by decide +kernel
theorem d_La_law_274 : decode code 274 = .ok (.iaload, 1) := by decide +kernel
theorem d_La_law_275 : decode code 275 = .ok (.aload_n 0, 1) := by decide +kernel
theorem d_La_law_276 : decode code 276 = .ok (.iload 4, 2) := by decide +kernel
theorem d_La_law_278 : decode code 278 = .ok (.iconst 2, 1) := by decide +kernel
theorem d_La_law_279 : decode code 279 = .ok (.iadd, 1) := by decide +kernel
theorem d_La_law_280 : decode code 280 = .ok (.iaload, 1) := by decide +kernel
theorem d_La_law_281 : decode code 281 = .ok (.aload_n 0, 1) := by decide +kernel
theorem d_La_law_282 : decode code 282 = .ok (.iload 4, 2) := by decide +kernel
theorem d_La_law_284 : decode code 284 = .ok (.iconst 3, 1) := by decide +kernel
theorem d_La_law_285 : decode code 285 = .ok (.iadd, 1) := by decide +kernel
theorem d_La_law_286 : decode code 286 = .ok (.iaload, 1) := by decide +kernel
theorem d_La_law_287 : decode code 287 = .ok (.invokevirtual 66, 3) := by decide +kernel
theorem d_La_law_290 : decode code 290 = .ok (.aload_n 2, 1) := by decide +kernel
theorem d_La_law_291 : decode code 291 = .ok (.invokevirtual 52, 3) := by decide +kernel
theorem d_La_law_294 : decode code 294 = .ok (.iload 5, 2) := by decide +kernel
theorem d_La_law_296 : decode code 296 = .ok (.if_icmp .eq 5, 3) := by decide +kernel
theorem d_La_law_299 : decode code 299 = .ok (.iconst 0, 1) := by decide +kernel
theorem d_La_law_300 : decode code 300 = .ok (.ireturn, 1) := by decide +kernel
theorem d_La_law_301 : decode code 301 = .ok (.goto 281, 3) := by decide +kernel
theorem d_La_law_304 : decode code 304 = .ok (.aload_n 1, 1) := by decide +kernel
theorem d_La_law_305 : decode code 305 = .ok (.aload_n 0, 1) := by decide +kernel
theorem d_La_law_306 : decode code 306 = .ok (.iload 4, 2) := by decide +kernel
theorem d_La_law_308 : decode code 308 = .ok (.iconst 1, 1) := by decide +kernel
theorem d_La_law_309 : decode code 309 = .ok (.iadd, 1) := by decide +kernel
theorem d_La_law_310 : decode code 310 = .ok (.iaload, 1) := by decide +kernel
theorem d_La_law_311 : decode code 311 = .ok (.aload_n 0, 1) := by decide +kernel
theorem d_La_law_312 : decode code 312 = .ok (.iload 4, 2) := by decide +kernel
theorem d_La_law_314 : decode code 314 = .ok (.iconst 2, 1) := by decide +kernel
theorem d_La_law_315 : decode code 315 = .ok (.iadd, 1) := by decide +kernel
theorem d_La_law_316 : decode code 316 = .ok (.iaload, 1) := by decide +kernel
theorem d_La_law_317 : decode code 317 = .ok (.aload_n 3, 1) := by decide +kernel
theorem d_La_law_318 : decode code 318 = .ok (.invokestatic 67, 3) := by decide +kernel
theorem d_La_law_321 : decode code 321 = .ok (.istore 5, 2) := by decide +kernel
theorem d_La_law_323 : decode code 323 = .ok (.aload_n 2, 1) := by decide +kernel
theorem d_La_law_324 : decode code 324 = .ok (.aload_n 0, 1) := by decide +kernel
theorem d_La_law_325 : decode code 325 = .ok (.iload 4, 2) := by decide +kernel
theorem d_La_law_327 : decode code 327 = .ok (.iconst 1, 1) := by decide +kernel
theorem d_La_law_328 : decode code 328 = .ok (.iadd, 1) := by decide +kernel
theorem d_La_law_329 : decode code 329 = .ok (.iaload, 1) := by decide +kernel
theorem d_La_law_330 : decode code 330 = .ok (.aload_n 0, 1) := by decide +kernel
theorem d_La_law_331 : decode code 331 = .ok (.iload 4, 2) := by decide +kernel
theorem d_La_law_333 : decode code 333 = .ok (.iconst 2, 1) := by decide +kernel
theorem d_La_law_334 : decode code 334 = .ok (.iadd, 1) := by decide +kernel
theorem d_La_law_335 : decode code 335 = .ok (.iaload, 1) := by decide +kernel
theorem d_La_law_336 : decode code 336 = .ok (.invokevirtual 70, 3) := by decide +kernel
theorem d_La_law_339 : decode code 339 = .ok (.istore 6, 2) := by decide +kernel
theorem d_La_law_341 : decode code 341 = .ok (.aload_n 2, 1) := by decide +kernel
theorem d_La_law_342 : decode code 342 = .ok (.invokevirtual 52, 3) := by decide +kernel
theorem d_La_law_345 : decode code 345 = .ok (.iload 5, 2) := by decide +kernel
theorem d_La_law_347 : decode code 347 = .ok (.if_icmp .eq 5, 3) := by decide +kernel
theorem d_La_law_350 : decode code 350 = .ok (.iconst 0, 1) := by decide +kernel
theorem d_La_law_351 : decode code 351 = .ok (.ireturn, 1) := by decide +kernel
theorem d_La_law_352 : decode code 352 = .ok (.iload 5, 2) := by decide +kernel
theorem d_La_law_354 : decode code 354 = .ok (.ifCond .ne 15, 3) := by decide +kernel
theorem d_La_law_357 : decode code 357 = .ok (.aload_n 3, 1) := by decide +kernel
theorem d_La_law_358 : decode code 358 = .ok (.iconst 0, 1) := by decide +kernel
theorem d_La_law_359 : decode code 359 = .ok (.laload, 1) := by decide +kernel
theorem d_La_law_360 : decode code 360 = .ok (.iload 6, 2) := by decide +kernel
theorem d_La_law_362 : decode code 362 = .ok (.i2l, 1) := by decide +kernel
theorem d_La_law_363 : decode code 363 = .ok (.lcmp, 1) := by decide +kernel
theorem d_La_law_364 : decode code 364 = .ok (.ifCond .eq 5, 3) := by decide +kernel
theorem d_La_law_367 : decode code 367 = .ok (.iconst 0, 1) := by decide +kernel
theorem d_La_law_368 : decode code 368 = .ok (.ireturn, 1) := by decide +kernel
theorem d_La_law_369 : decode code 369 = .ok (.goto 213, 3) := by decide +kernel
theorem d_La_law_372 : decode code 372 = .ok (.aload_n 1, 1) := by decide +kernel
theorem d_La_law_373 : decode code 373 = .ok (.aload_n 0, 1) := by decide +kernel
theorem d_La_law_374 : decode code 374 = .ok (.iload 4, 2) := by decide +kernel
theorem d_La_law_376 : decode code 376 = .ok (.iconst 1, 1) := by decide +kernel
theorem d_La_law_377 : decode code 377 = .ok (.iadd, 1) := by decide +kernel
theorem d_La_law_378 : decode code 378 = .ok (.iaload, 1) := by decide +kernel
theorem d_La_law_379 : decode code 379 = .ok (.invokestatic 71, 3) := by decide +kernel
theorem d_La_law_382 : decode code 382 = .ok (.istore 5, 2) := by decide +kernel
theorem d_La_law_384 : decode code 384 = .ok (.aload_n 2, 1) := by decide +kernel
theorem d_La_law_385 : decode code 385 = .ok (.aload_n 0, 1) := by decide +kernel
theorem d_La_law_386 : decode code 386 = .ok (.iload 4, 2) := by decide +kernel
theorem d_La_law_388 : decode code 388 = .ok (.iconst 1, 1) := by decide +kernel
theorem d_La_law_389 : decode code 389 = .ok (.iadd, 1) := by decide +kernel
theorem d_La_law_390 : decode code 390 = .ok (.iaload, 1) := by decide +kernel
theorem d_La_law_391 : decode code 391 = .ok (.invokevirtual 74, 3) := by decide +kernel
theorem d_La_law_394 : decode code 394 = .ok (.aload_n 2, 1) := by decide +kernel
theorem d_La_law_395 : decode code 395 = .ok (.invokevirtual 52, 3) := by decide +kernel
theorem d_La_law_398 : decode code 398 = .ok (.iload 5, 2) := by decide +kernel
theorem d_La_law_400 : decode code 400 = .ok (.if_icmp .eq 5, 3) := by decide +kernel
theorem d_La_law_403 : decode code 403 = .ok (.iconst 0, 1) := by decide +kernel
theorem d_La_law_404 : decode code 404 = .ok (.ireturn, 1) := by decide +kernel
theorem d_La_law_405 : decode code 405 = .ok (.goto 177, 3) := by decide +kernel
theorem d_La_law_408 : decode code 408 = .ok (.aload_n 1, 1) := by decide +kernel
theorem d_La_law_409 : decode code 409 = .ok (.aload_n 0, 1) := by decide +kernel
theorem d_La_law_410 : decode code 410 = .ok (.iload 4, 2) := by decide +kernel
theorem d_La_law_412 : decode code 412 = .ok (.iconst 1, 1) := by decide +kernel
theorem d_La_law_413 : decode code 413 = .ok (.iadd, 1) := by decide +kernel
theorem d_La_law_414 : decode code 414 = .ok (.iaload, 1) := by decide +kernel
theorem d_La_law_415 : decode code 415 = .ok (.aload_n 3, 1) := by decide +kernel
theorem d_La_law_416 : decode code 416 = .ok (.invokestatic 75, 3) := by decide +kernel
theorem d_La_law_419 : decode code 419 = .ok (.istore 5, 2) := by decide +kernel
theorem d_La_law_421 : decode code 421 = .ok (.aload_n 2, 1) := by decide +kernel
theorem d_La_law_422 : decode code 422 = .ok (.aload_n 0, 1) := by decide +kernel
theorem d_La_law_423 : decode code 423 = .ok (.iload 4, 2) := by decide +kernel
theorem d_La_law_425 : decode code 425 = .ok (.iconst 1, 1) := by decide +kernel
theorem d_La_law_426 : decode code 426 = .ok (.iadd, 1) := by decide +kernel
theorem d_La_law_427 : decode code 427 = .ok (.iaload, 1) := by decide +kernel
theorem d_La_law_428 : decode code 428 = .ok (.invokevirtual 77, 3) := by decide +kernel
theorem d_La_law_431 : decode code 431 = .ok (.istore 6, 2) := by decide +kernel
theorem d_La_law_433 : decode code 433 = .ok (.aload_n 2, 1) := by decide +kernel
theorem d_La_law_434 : decode code 434 = .ok (.invokevirtual 52, 3) := by decide +kernel
theorem d_La_law_437 : decode code 437 = .ok (.iload 5, 2) := by decide +kernel
theorem d_La_law_439 : decode code 439 = .ok (.if_icmp .eq 5, 3) := by decide +kernel
theorem d_La_law_442 : decode code 442 = .ok (.iconst 0, 1) := by decide +kernel
theorem d_La_law_443 : decode code 443 = .ok (.ireturn, 1) := by decide +kernel
theorem d_La_law_444 : decode code 444 = .ok (.iload 5, 2) := by decide +kernel
theorem d_La_law_446 : decode code 446 = .ok (.ifCond .ne 15, 3) := by decide +kernel
theorem d_La_law_449 : decode code 449 = .ok (.aload_n 3, 1) := by decide +kernel
theorem d_La_law_450 : decode code 450 = .ok (.iconst 0, 1) := by decide +kernel
theorem d_La_law_451 : decode code 451 = .ok (.laload, 1) := by decide +kernel
theorem d_La_law_452 : decode code 452 = .ok (.iload 6, 2) := by decide +kernel
theorem d_La_law_454 : decode code 454 = .ok (.i2l, 1) := by decide +kernel
theorem d_La_law_455 : decode code 455 = .ok (.lcmp, 1) := by decide +kernel
theorem d_La_law_456 : decode code 456 = .ok (.ifCond .eq 5, 3) := by decide +kernel
theorem d_La_law_459 : decode code 459 = .ok (.iconst 0, 1) := by decide +kernel
theorem d_La_law_460 : decode code 460 = .ok (.ireturn, 1) := by decide +kernel
theorem d_La_law_461 : decode code 461 = .ok (.goto 121, 3) := by decide +kernel
theorem d_La_law_464 : decode code 464 = .ok (.aload_n 1, 1) := by decide +kernel
theorem d_La_law_465 : decode code 465 = .ok (.aload_n 0, 1) := by decide +kernel
theorem d_La_law_466 : decode code 466 = .ok (.iload 4, 2) := by decide +kernel
theorem d_La_law_468 : decode code 468 = .ok (.iconst 1, 1) := by decide +kernel
theorem d_La_law_469 : decode code 469 = .ok (.iadd, 1) := by decide +kernel
theorem d_La_law_470 : decode code 470 = .ok (.iaload, 1) := by decide +kernel
theorem d_La_law_471 : decode code 471 = .ok (.aload_n 0, 1) := by decide +kernel
theorem d_La_law_472 : decode code 472 = .ok (.iload 4, 2) := by decide +kernel
theorem d_La_law_474 : decode code 474 = .ok (.iconst 2, 1) := by decide +kernel
theorem d_La_law_475 : decode code 475 = .ok (.iadd, 1) := by decide +kernel
theorem d_La_law_476 : decode code 476 = .ok (.iaload, 1) := by decide +kernel
theorem d_La_law_477 : decode code 477 = .ok (.aload_n 3, 1) := by decide +kernel
theorem d_La_law_478 : decode code 478 = .ok (.invokestatic 78, 3) := by decide +kernel
theorem d_La_law_481 : decode code 481 = .ok (.istore 5, 2) := by decide +kernel
theorem d_La_law_483 : decode code 483 = .ok (.aload_n 2, 1) := by decide +kernel
theorem d_La_law_484 : decode code 484 = .ok (.aload_n 0, 1) := by decide +kernel
theorem d_La_law_485 : decode code 485 = .ok (.iload 4, 2) := by decide +kernel
theorem d_La_law_487 : decode code 487 = .ok (.iconst 1, 1) := by decide +kernel
theorem d_La_law_488 : decode code 488 = .ok (.iadd, 1) := by decide +kernel
theorem d_La_law_489 : decode code 489 = .ok (.iaload, 1) := by decide +kernel
theorem d_La_law_490 : decode code 490 = .ok (.aload_n 0, 1) := by decide +kernel
theorem d_La_law_491 : decode code 491 = .ok (.iload 4, 2) := by decide +kernel
theorem d_La_law_493 : decode code 493 = .ok (.iconst 2, 1) := by decide +kernel
theorem d_La_law_494 : decode code 494 = .ok (.iadd, 1) := by decide +kernel
theorem d_La_law_495 : decode code 495 = .ok (.iaload, 1) := by decide +kernel
theorem d_La_law_496 : decode code 496 = .ok (.invokevirtual 80, 3) := by decide +kernel
theorem d_La_law_499 : decode code 499 = .ok (.istore 6, 2) := by decide +kernel
theorem d_La_law_501 : decode code 501 = .ok (.aload_n 2, 1) := by decide +kernel
theorem d_La_law_502 : decode code 502 = .ok (.invokevirtual 52, 3) := by decide +kernel
theorem d_La_law_505 : decode code 505 = .ok (.iload 5, 2) := by decide +kernel
theorem d_La_law_507 : decode code 507 = .ok (.if_icmp .eq 5, 3) := by decide +kernel
theorem d_La_law_510 : decode code 510 = .ok (.iconst 0, 1) := by decide +kernel
theorem d_La_law_511 : decode code 511 = .ok (.ireturn, 1) := by decide +kernel
theorem d_La_law_512 : decode code 512 = .ok (.iload 5, 2) := by decide +kernel
theorem d_La_law_514 : decode code 514 = .ok (.ifCond .ne 15, 3) := by decide +kernel
theorem d_La_law_517 : decode code 517 = .ok (.aload_n 3, 1) := by decide +kernel
theorem d_La_law_518 : decode code 518 = .ok (.iconst 0, 1) := by decide +kernel
theorem d_La_law_519 : decode code 519 = .ok (.laload, 1) := by decide +kernel
theorem d_La_law_520 : decode code 520 = .ok (.iload 6, 2) := by decide +kernel
theorem d_La_law_522 : decode code 522 = .ok (.i2l, 1) := by decide +kernel
theorem d_La_law_523 : decode code 523 = .ok (.lcmp, 1) := by decide +kernel
theorem d_La_law_524 : decode code 524 = .ok (.ifCond .eq 5, 3) := by decide +kernel
theorem d_La_law_527 : decode code 527 = .ok (.iconst 0, 1) := by decide +kernel
theorem d_La_law_528 : decode code 528 = .ok (.ireturn, 1) := by decide +kernel
theorem d_La_law_529 : decode code 529 = .ok (.goto 53, 3) := by decide +kernel
theorem d_La_law_532 : decode code 532 = .ok (.aload_n 1, 1) := by decide +kernel
theorem d_La_law_533 : decode code 533 = .ok (.aload_n 0, 1) := by decide +kernel
theorem d_La_law_534 : decode code 534 = .ok (.iload 4, 2) := by decide +kernel
theorem d_La_law_536 : decode code 536 = .ok (.iconst 1, 1) := by decide +kernel
theorem d_La_law_537 : decode code 537 = .ok (.iadd, 1) := by decide +kernel
theorem d_La_law_538 : decode code 538 = .ok (.iaload, 1) := by decide +kernel
theorem d_La_law_539 : decode code 539 = .ok (.invokevirtual 81, 3) := by decide +kernel
theorem d_La_law_542 : decode code 542 = .ok (.aload_n 2, 1) := by decide +kernel
theorem d_La_law_543 : decode code 543 = .ok (.aload_n 0, 1) := by decide +kernel
theorem d_La_law_544 : decode code 544 = .ok (.iload 4, 2) := by decide +kernel
theorem d_La_law_546 : decode code 546 = .ok (.iconst 1, 1) := by decide +kernel
theorem d_La_law_547 : decode code 547 = .ok (.iadd, 1) := by decide +kernel
theorem d_La_law_548 : decode code 548 = .ok (.iaload, 1) := by decide +kernel
theorem d_La_law_549 : decode code 549 = .ok (.invokevirtual 84, 3) := by decide +kernel
theorem d_La_law_552 : decode code 552 = .ok (.if_icmp .eq 30, 3) := by decide +kernel
theorem d_La_law_555 : decode code 555 = .ok (.iconst 0, 1) := by decide +kernel
theorem d_La_law_556 : decode code 556 = .ok (.ireturn, 1) := by decide +kernel
theorem d_La_law_557 : decode code 557 = .ok (.aload_n 1, 1) := by decide +kernel
theorem d_La_law_558 : decode code 558 = .ok (.aload_n 0, 1) := by decide +kernel
theorem d_La_law_559 : decode code 559 = .ok (.iload 4, 2) := by decide +kernel
theorem d_La_law_561 : decode code 561 = .ok (.iconst 1, 1) := by decide +kernel
theorem d_La_law_562 : decode code 562 = .ok (.iadd, 1) := by decide +kernel
theorem d_La_law_563 : decode code 563 = .ok (.iaload, 1) := by decide +kernel
theorem d_La_law_564 : decode code 564 = .ok (.invokevirtual 85, 3) := by decide +kernel
theorem d_La_law_567 : decode code 567 = .ok (.aload_n 2, 1) := by decide +kernel
theorem d_La_law_568 : decode code 568 = .ok (.aload_n 0, 1) := by decide +kernel
theorem d_La_law_569 : decode code 569 = .ok (.iload 4, 2) := by decide +kernel
theorem d_La_law_571 : decode code 571 = .ok (.iconst 1, 1) := by decide +kernel
theorem d_La_law_572 : decode code 572 = .ok (.iadd, 1) := by decide +kernel
theorem d_La_law_573 : decode code 573 = .ok (.iaload, 1) := by decide +kernel
theorem d_La_law_574 : decode code 574 = .ok (.invokevirtual 88, 3) := by decide +kernel
theorem d_La_law_577 : decode code 577 = .ok (.if_icmp .eq 5, 3) := by decide +kernel
theorem d_La_law_580 : decode code 580 = .ok (.iconst 0, 1) := by decide +kernel
theorem d_La_law_581 : decode code 581 = .ok (.ireturn, 1) := by decide +kernel
theorem d_La_law_582 : decode code 582 = .ok (.iinc 4 4, 3) := by decide +kernel
theorem d_La_law_585 : decode code 585 = .ok (.goto (-562), 3) := by decide +kernel
theorem d_La_law_588 : decode code 588 = .ok (.iconst 1, 1) := by decide +kernel
theorem d_La_law_589 : decode code 589 = .ok (.ireturn, 1) := by decide +kernel
def RelOk (Rel : Sg → Sg → Prop) : Prop :=
  (∀ σ τ, Rel σ τ → IC σ) ∧ (∀ σ τ, Rel σ τ → JM τ) ∧ (∀ σ τ, Rel σ τ → ∀ j, OkC (it_Pm_run_23 σ j).2) ∧ (∀ σ τ, Rel σ τ → ∀ j, OkM (it_Mo_run_25 (sf τ 0 0 0) j).2) ∧
  (∀ σ τ x1 x2, Rel σ τ → (fL_poke σ x1 x2).1 = (f_Mo_poke τ x1 x2) 0 0 ∧ Rel (fL_poke σ x1 x2).2 (f_Mo_poke τ x1 x2)) ∧
  (∀ σ τ x1 x2, Rel σ τ → (fL_write σ x1 x2).1 = (f_Mo_write τ x1 x2) 0 0 ∧ Rel (fL_write σ x1 x2).2 (f_Mo_write τ x1 x2)) ∧
  (∀ σ τ x1 x2 x3, Rel σ τ → (fL_disk σ x1 x2 x3).1 = (f_Mo_disk τ x1 x2 x3) 0 0 ∧ Rel (fL_disk σ x1 x2 x3).2 (f_Mo_disk τ x1 x2 x3)) ∧
  (∀ σ τ x1, Rel σ τ → (fL_stick σ x1).1 = (f_Mo_stick τ x1) 0 0 ∧ Rel (fL_stick σ x1).2 (f_Mo_stick τ x1)) ∧
  (∀ σ τ g x1, Rel σ τ → (fL_peek σ g x1).1 = (f_Mo_peek τ x1).2 0 0 ∧ ((fL_peek σ g x1).1 = 0 → (fL_peek σ g x1).2.2 0 = (f_Mo_peek τ x1).1.toInt64) ∧ Rel (fL_peek σ g x1).2.1 (f_Mo_peek τ x1).2) ∧
  (∀ σ τ g x1 x2, Rel σ τ → (fL_sector σ g x1 x2).1 = (f_Mo_sector τ x1 x2).2 0 0 ∧ ((fL_sector σ g x1 x2).1 = 0 → (fL_sector σ g x1 x2).2.2 0 = (f_Mo_sector τ x1 x2).1.toInt64) ∧ Rel (fL_sector σ g x1 x2).2.1 (f_Mo_sector τ x1 x2).2) ∧
  (∀ σ τ g x1, Rel σ τ → (fL_run σ g x1).1 = (f_Mo_run τ x1).2 0 0 ∧ ((fL_run σ g x1).1 = 0 → (fL_run σ g x1).2.2 0 = (f_Mo_run τ x1).1.toInt64) ∧ Rel (fL_run σ g x1).2.1 (f_Mo_run τ x1).2) ∧
  (∀ σ τ g x1 x2, Rel σ τ → (fL_dot σ g x1 x2).1 = (f_Mo_dot τ x1 x2).2 0 0 ∧ ((fL_dot σ g x1 x2).1 = 0 → (fL_dot σ g x1 x2).2.2 0 = (f_Mo_dot τ x1 x2).1.toInt64) ∧ Rel (fL_dot σ g x1 x2).2.1 (f_Mo_dot τ x1 x2).2) ∧
  (∀ σ τ x1, Rel σ τ → f_Pm_processor σ x1 = (f_Mo_processor τ x1).1 ∧ Rel σ (f_Mo_processor τ x1).2) ∧
  (∀ σ τ x1, Rel σ τ → f_Pm_state σ x1 = (f_Mo_state τ x1).1 ∧ Rel σ (f_Mo_state τ x1).2)
