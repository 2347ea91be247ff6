theorem dX13_putsOfRows_105 : decode cX13_putsOfRows 105 = .ok (.iconst 1, 1) := by decide +kernel
theorem dX13_putsOfRows_106 : decode cX13_putsOfRows 106 = .ok (.goto 4, 3) := by decide +kernel
theorem dX13_putsOfRows_109 : decode cX13_putsOfRows 109 = .ok (.iconst 0, 1) := by decide +kernel
theorem dX13_putsOfRows_110 : decode cX13_putsOfRows 110 = .ok (.istore 7, 2) := by decide +kernel
theorem dX13_putsOfRows_112 : decode cX13_putsOfRows 112 = .ok (.iconst 0, 1) := by decide +kernel
theorem dX13_putsOfRows_113 : decode cX13_putsOfRows 113 = .ok (.istore 8, 2) := by decide +kernel
theorem dX13_putsOfRows_115 : decode cX13_putsOfRows 115 = .ok (.iload 8, 2) := by decide +kernel
theorem dX13_putsOfRows_117 : decode cX13_putsOfRows 117 = .ok (.iload 4, 2) := by decide +kernel
theorem dX13_putsOfRows_119 : decode cX13_putsOfRows 119 = .ok (.if_icmp .ge 65, 3) := by decide +kernel
theorem dX13_putsOfRows_122 : decode cX13_putsOfRows 122 = .ok (.iload 7, 2) := by decide +kernel
theorem dX13_putsOfRows_124 : decode cX13_putsOfRows 124 = .ok (.ifCond .eq 60, 3) := by decide +kernel
theorem dX13_putsOfRows_127 : decode cX13_putsOfRows 127 = .ok (.aload_n 0, 1) := by decide +kernel
theorem dX13_putsOfRows_128 : decode cX13_putsOfRows 128 = .ok (.getfield 213, 3) := by decide +kernel
theorem dX13_putsOfRows_131 : decode cX13_putsOfRows 131 = .ok (.iload 8, 2) := by decide +kernel
theorem dX13_putsOfRows_133 : decode cX13_putsOfRows 133 = .ok (.iadd, 1) := by decide +kernel
theorem dX13_putsOfRows_134 : decode cX13_putsOfRows 134 = .ok (.aload_n 0, 1) := by decide +kernel
theorem dX13_putsOfRows_135 : decode cX13_putsOfRows 135 = .ok (.getfield 13, 3) := by decide +kernel
theorem dX13_putsOfRows_138 : decode cX13_putsOfRows 138 = .ok (.if_icmp .ge 18, 3) := by decide +kernel
theorem dX13_putsOfRows_141 : decode cX13_putsOfRows 141 = .ok (.aload_n 0, 1) := by decide +kernel
theorem dX13_putsOfRows_142 : decode cX13_putsOfRows 142 = .ok (.getfield 17, 3) := by decide +kernel
theorem dX13_putsOfRows_145 : decode cX13_putsOfRows 145 = .ok (.aload_n 0, 1) := by decide +kernel
theorem dX13_putsOfRows_146 : decode cX13_putsOfRows 146 = .ok (.getfield 213, 3) := by decide +kernel
theorem dX13_putsOfRows_149 : decode cX13_putsOfRows 149 = .ok (.iload 8, 2) := by decide +kernel
theorem dX13_putsOfRows_151 : decode cX13_putsOfRows 151 = .ok (.iadd, 1) := by decide +kernel
theorem dX13_putsOfRows_152 : decode cX13_putsOfRows 152 = .ok (.iaload, 1) := by decide +kernel
theorem dX13_putsOfRows_153 : decode cX13_putsOfRows 153 = .ok (.goto 4, 3) := by decide +kernel
theorem dX13_putsOfRows_156 : decode cX13_putsOfRows 156 = .ok (.iconst 0, 1) := by decide +kernel
theorem dX13_putsOfRows_157 : decode cX13_putsOfRows 157 = .ok (.iload_n 3, 1) := by decide +kernel
theorem dX13_putsOfRows_158 : decode cX13_putsOfRows 158 = .ok (.invokestatic 210, 3) := by decide +kernel
theorem dX13_putsOfRows_161 : decode cX13_putsOfRows 161 = .ok (.iload_n 2, 1) := by decide +kernel
theorem dX13_putsOfRows_162 : decode cX13_putsOfRows 162 = .ok (.iload 6, 2) := by decide +kernel
theorem dX13_putsOfRows_164 : decode cX13_putsOfRows 164 = .ok (.imul, 1) := by decide +kernel
theorem dX13_putsOfRows_165 : decode cX13_putsOfRows 165 = .ok (.iadd, 1) := by decide +kernel
theorem dX13_putsOfRows_166 : decode cX13_putsOfRows 166 = .ok (.bipush 60, 2) := by decide +kernel
theorem dX13_putsOfRows_168 : decode cX13_putsOfRows 168 = .ok (.if_icmp .gt 7, 3) := by decide +kernel
theorem dX13_putsOfRows_171 : decode cX13_putsOfRows 171 = .ok (.iconst 1, 1) := by decide +kernel
theorem dX13_putsOfRows_172 : decode cX13_putsOfRows 172 = .ok (.goto 4, 3) := by decide +kernel
theorem dX13_putsOfRows_175 : decode cX13_putsOfRows 175 = .ok (.iconst 0, 1) := by decide +kernel
theorem dX13_putsOfRows_176 : decode cX13_putsOfRows 176 = .ok (.istore 7, 2) := by decide +kernel
theorem dX13_putsOfRows_178 : decode cX13_putsOfRows 178 = .ok (.iinc 8 1, 3) := by decide +kernel
theorem dX13_putsOfRows_181 : decode cX13_putsOfRows 181 = .ok (.goto (-66), 3) := by decide +kernel
theorem dX13_putsOfRows_184 : decode cX13_putsOfRows 184 = .ok (.iload 7, 2) := by decide +kernel
theorem dX13_putsOfRows_186 : decode cX13_putsOfRows 186 = .ok (.ifCond .ne 5, 3) := by decide +kernel
theorem dX13_putsOfRows_189 : decode cX13_putsOfRows 189 = .ok (.iconst 0, 1) := by decide +kernel
theorem dX13_putsOfRows_190 : decode cX13_putsOfRows 190 = .ok (.ireturn, 1) := by decide +kernel
theorem dX13_putsOfRows_191 : decode cX13_putsOfRows 191 = .ok (.aload_n 0, 1) := by decide +kernel
theorem dX13_putsOfRows_192 : decode cX13_putsOfRows 192 = .ok (.getfield 213, 3) := by decide +kernel
theorem dX13_putsOfRows_195 : decode cX13_putsOfRows 195 = .ok (.iload 4, 2) := by decide +kernel
theorem dX13_putsOfRows_197 : decode cX13_putsOfRows 197 = .ok (.iadd, 1) := by decide +kernel
theorem dX13_putsOfRows_198 : decode cX13_putsOfRows 198 = .ok (.aload_n 0, 1) := by decide +kernel
theorem dX13_putsOfRows_199 : decode cX13_putsOfRows 199 = .ok (.getfield 13, 3) := by decide +kernel
theorem dX13_putsOfRows_202 : decode cX13_putsOfRows 202 = .ok (.if_icmp .le 23, 3) := by decide +kernel
theorem dX13_putsOfRows_205 : decode cX13_putsOfRows 205 = .ok (.aload_n 0, 1) := by decide +kernel
theorem dX13_putsOfRows_206 : decode cX13_putsOfRows 206 = .ok (.aload_n 0, 1) := by decide +kernel
theorem dX13_putsOfRows_207 : decode cX13_putsOfRows 207 = .ok (.getfield 13, 3) := by decide +kernel
theorem dX13_putsOfRows_210 : decode cX13_putsOfRows 210 = .ok (.aload_n 0, 1) := by decide +kernel
theorem dX13_putsOfRows_211 : decode cX13_putsOfRows 211 = .ok (.getfield 213, 3) := by decide +kernel
theorem dX13_putsOfRows_214 : decode cX13_putsOfRows 214 = .ok (.iload 4, 2) := by decide +kernel
theorem dX13_putsOfRows_216 : decode cX13_putsOfRows 216 = .ok (.iadd, 1) := by decide +kernel
theorem dX13_putsOfRows_217 : decode cX13_putsOfRows 217 = .ok (.aload_n 0, 1) := by decide +kernel
theorem dX13_putsOfRows_218 : decode cX13_putsOfRows 218 = .ok (.getfield 13, 3) := by decide +kernel
theorem dX13_putsOfRows_221 : decode cX13_putsOfRows 221 = .ok (.isub, 1) := by decide +kernel
theorem dX13_putsOfRows_222 : decode cX13_putsOfRows 222 = .ok (.invokevirtual 278, 3) := by decide +kernel
theorem dX13_putsOfRows_225 : decode cX13_putsOfRows 225 = .ok (.sipush 3000, 3) := by decide +kernel
theorem dX13_putsOfRows_228 : decode cX13_putsOfRows 228 = .ok (.iload_n 1, 1) := by decide +kernel
theorem dX13_putsOfRows_229 : decode cX13_putsOfRows 229 = .ok (.imul, 1) := by decide +kernel
theorem dX13_putsOfRows_230 : decode cX13_putsOfRows 230 = .ok (.istore 8, 2) := by decide +kernel
theorem dX13_putsOfRows_232 : decode cX13_putsOfRows 232 = .ok (.aload_n 0, 1) := by decide +kernel
theorem dX13_putsOfRows_233 : decode cX13_putsOfRows 233 = .ok (.getfield 213, 3) := by decide +kernel
theorem dX13_putsOfRows_236 : decode cX13_putsOfRows 236 = .ok (.istore 9, 2) := by decide +kernel
theorem dX13_putsOfRows_238 : decode cX13_putsOfRows 238 = .ok (.iload 9, 2) := by decide +kernel
theorem dX13_putsOfRows_240 : decode cX13_putsOfRows 240 = .ok (.aload_n 0, 1) := by decide +kernel
theorem dX13_putsOfRows_241 : decode cX13_putsOfRows 241 = .ok (.getfield 213, 3) := by decide +kernel
theorem dX13_putsOfRows_244 : decode cX13_putsOfRows 244 = .ok (.iload 4, 2) := by decide +kernel
theorem dX13_putsOfRows_246 : decode cX13_putsOfRows 246 = .ok (.iadd, 1) := by decide +kernel
theorem dX13_putsOfRows_247 : decode cX13_putsOfRows 247 = .ok (.if_icmp .ge 151, 3) := by decide +kernel
theorem dX13_putsOfRows_250 : decode cX13_putsOfRows 250 = .ok (.aload_n 0, 1) := by decide +kernel
theorem dX13_putsOfRows_251 : decode cX13_putsOfRows 251 = .ok (.getfield 17, 3) := by decide +kernel
theorem dX13_putsOfRows_254 : decode cX13_putsOfRows 254 = .ok (.iload 9, 2) := by decide +kernel
theorem dX13_putsOfRows_256 : decode cX13_putsOfRows 256 = .ok (.iaload, 1) := by decide +kernel
theorem dX13_putsOfRows_257 : decode cX13_putsOfRows 257 = .ok (.iload_n 3, 1) := by decide +kernel
theorem dX13_putsOfRows_258 : decode cX13_putsOfRows 258 = .ok (.if_icmp .ge 37, 3) := by decide +kernel
theorem dX13_putsOfRows_261 : decode cX13_putsOfRows 261 = .ok (.aload_n 0, 1) := by decide +kernel
theorem dX13_putsOfRows_262 : decode cX13_putsOfRows 262 = .ok (.getfield 20, 3) := by decide +kernel
theorem dX13_putsOfRows_265 : decode cX13_putsOfRows 265 = .ok (.bipush 60, 2) := by decide +kernel
theorem dX13_putsOfRows_267 : decode cX13_putsOfRows 267 = .ok (.iload 9, 2) := by decide +kernel
theorem dX13_putsOfRows_269 : decode cX13_putsOfRows 269 = .ok (.imul, 1) := by decide +kernel
theorem dX13_putsOfRows_270 : decode cX13_putsOfRows 270 = .ok (.aload_n 0, 1) := by decide +kernel
theorem dX13_putsOfRows_271 : decode cX13_putsOfRows 271 = .ok (.getfield 17, 3) := by decide +kernel
theorem dX13_putsOfRows_274 : decode cX13_putsOfRows 274 = .ok (.iload 9, 2) := by decide +kernel
theorem dX13_putsOfRows_276 : decode cX13_putsOfRows 276 = .ok (.iaload, 1) := by decide +kernel
theorem dX13_putsOfRows_277 : decode cX13_putsOfRows 277 = .ok (.iadd, 1) := by decide +kernel
theorem dX13_putsOfRows_278 : decode cX13_putsOfRows 278 = .ok (.bipush 32, 2) := by decide +kernel
theorem dX13_putsOfRows_280 : decode cX13_putsOfRows 280 = .ok (.iastore, 1) := by decide +kernel
theorem dX13_putsOfRows_281 : decode cX13_putsOfRows 281 = .ok (.aload_n 0, 1) := by decide +kernel
theorem dX13_putsOfRows_282 : decode cX13_putsOfRows 282 = .ok (.getfield 17, 3) := by decide +kernel
theorem dX13_putsOfRows_285 : decode cX13_putsOfRows 285 = .ok (.iload 9, 2) := by decide +kernel
theorem dX13_putsOfRows_287 : decode cX13_putsOfRows 287 = .ok (.dup2, 1) := by decide +kernel
theorem dX13_putsOfRows_288 : decode cX13_putsOfRows 288 = .ok (.iaload, 1) := by decide +kernel
theorem dX13_putsOfRows_289 : decode cX13_putsOfRows 289 = .ok (.iconst 1, 1) := by decide +kernel
theorem dX13_putsOfRows_290 : decode cX13_putsOfRows 290 = .ok (.iadd, 1) := by decide +kernel
theorem dX13_putsOfRows_291 : decode cX13_putsOfRows 291 = .ok (.iastore, 1) := by decide +kernel
theorem dX13_putsOfRows_292 : decode cX13_putsOfRows 292 = .ok (.goto (-42), 3) := by decide +kernel
theorem dX13_putsOfRows_295 : decode cX13_putsOfRows 295 = .ok (.iconst 0, 1) := by decide +kernel
theorem dX13_putsOfRows_296 : decode cX13_putsOfRows 296 = .ok (.istore 10, 2) := by decide +kernel
theorem dX13_putsOfRows_298 : decode cX13_putsOfRows 298 = .ok (.aload_n 0, 1) := by decide +kernel
theorem dX13_putsOfRows_299 : decode cX13_putsOfRows 299 = .ok (.getfield 30, 3) := by decide +kernel
theorem dX13_putsOfRows_302 : decode cX13_putsOfRows 302 = .ok (.iload 8, 2) := by decide +kernel
theorem dX13_putsOfRows_304 : decode cX13_putsOfRows 304 = .ok (.iload 10, 2) := by decide +kernel
theorem dX13_putsOfRows_306 : decode cX13_putsOfRows 306 = .ok (.iadd, 1) := by decide +kernel
theorem dX13_putsOfRows_307 : decode cX13_putsOfRows 307 = .ok (.iaload, 1) := by decide +kernel
theorem dX13_putsOfRows_308 : decode cX13_putsOfRows 308 = .ok (.bipush 10, 2) := by decide +kernel
theorem dX13_putsOfRows_310 : decode cX13_putsOfRows 310 = .ok (.if_icmp .eq 9, 3) := by decide +kernel
theorem dX13_putsOfRows_313 : decode cX13_putsOfRows 313 = .ok (.iinc 10 1, 3) := by decide +kernel
theorem dX13_putsOfRows_316 : decode cX13_putsOfRows 316 = .ok (.goto (-18), 3) := by decide +kernel
theorem dX13_putsOfRows_319 : decode cX13_putsOfRows 319 = .ok (.iconst 0, 1) := by decide +kernel
theorem dX13_putsOfRows_320 : decode cX13_putsOfRows 320 = .ok (.istore 11, 2) := by decide +kernel
theorem dX13_putsOfRows_322 : decode cX13_putsOfRows 322 = .ok (.iload 11, 2) := by decide +kernel
theorem dX13_putsOfRows_324 : decode cX13_putsOfRows 324 = .ok (.iload_n 2, 1) := by decide +kernel
theorem dX13_putsOfRows_325 : decode cX13_putsOfRows 325 = .ok (.iload 6, 2) := by decide +kernel
theorem dX13_putsOfRows_327 : decode cX13_putsOfRows 327 = .ok (.imul, 1) := by decide +kernel
theorem dX13_putsOfRows_328 : decode cX13_putsOfRows 328 = .ok (.if_icmp .ge 44, 3) := by decide +kernel
theorem dX13_putsOfRows_331 : decode cX13_putsOfRows 331 = .ok (.aload_n 0, 1) := by decide +kernel
theorem dX13_putsOfRows_332 : decode cX13_putsOfRows 332 = .ok (.getfield 83, 3) := by decide +kernel
theorem dX13_putsOfRows_335 : decode cX13_putsOfRows 335 = .ok (.iload 11, 2) := by decide +kernel
theorem dX13_putsOfRows_337 : decode cX13_putsOfRows 337 = .ok (.iload 11, 2) := by decide +kernel
theorem dX13_putsOfRows_339 : decode cX13_putsOfRows 339 = .ok (.iload 6, 2) := by decide +kernel
theorem dX13_putsOfRows_341 : decode cX13_putsOfRows 341 = .ok (.irem, 1) := by decide +kernel
theorem dX13_putsOfRows_342 : decode cX13_putsOfRows 342 = .ok (.iload 10, 2) := by decide +kernel
theorem dX13_putsOfRows_344 : decode cX13_putsOfRows 344 = .ok (.if_icmp .ge 19, 3) := by decide +kernel
theorem dX13_putsOfRows_347 : decode cX13_putsOfRows 347 = .ok (.aload_n 0, 1) := by decide +kernel
theorem dX13_putsOfRows_348 : decode cX13_putsOfRows 348 = .ok (.getfield 30, 3) := by decide +kernel
theorem dX13_putsOfRows_351 : decode cX13_putsOfRows 351 = .ok (.iload 8, 2) := by decide +kernel
theorem dX13_putsOfRows_353 : decode cX13_putsOfRows 353 = .ok (.iload 11, 2) := by decide +kernel
theorem dX13_putsOfRows_355 : decode cX13_putsOfRows 355 = .ok (.iload 6, 2) := by decide +kernel
theorem dX13_putsOfRows_357 : decode cX13_putsOfRows 357 = .ok (.irem, 1) := by decide +kernel
theorem dX13_putsOfRows_358 : decode cX13_putsOfRows 358 = .ok (.iadd, 1) := by decide +kernel
theorem dX13_putsOfRows_359 : decode cX13_putsOfRows 359 = .ok (.iaload, 1) := by decide +kernel
theorem dX13_putsOfRows_360 : decode cX13_putsOfRows 360 = .ok (.goto 5, 3) := by decide +kernel
theorem dX13_putsOfRows_363 : decode cX13_putsOfRows 363 = .ok (.bipush 32, 2) := by decide +kernel
theorem dX13_putsOfRows_365 : decode cX13_putsOfRows 365 = .ok (.iastore, 1) := by decide +kernel
theorem dX13_putsOfRows_366 : decode cX13_putsOfRows 366 = .ok (.iinc 11 1, 3) := by decide +kernel
theorem dX13_putsOfRows_369 : decode cX13_putsOfRows 369 = .ok (.goto (-47), 3) := by decide +kernel
theorem dX13_putsOfRows_372 : decode cX13_putsOfRows 372 = .ok (.aload_n 0, 1) := by decide +kernel
theorem dX13_putsOfRows_373 : decode cX13_putsOfRows 373 = .ok (.iload 9, 2) := by decide +kernel
theorem dX13_putsOfRows_375 : decode cX13_putsOfRows 375 = .ok (.iload_n 3, 1) := by decide +kernel
theorem dX13_putsOfRows_376 : decode cX13_putsOfRows 376 = .ok (.iload_n 2, 1) := by decide +kernel
theorem dX13_putsOfRows_377 : decode cX13_putsOfRows 377 = .ok (.iload 6, 2) := by decide +kernel
theorem dX13_putsOfRows_379 : decode cX13_putsOfRows 379 = .ok (.imul, 1) := by decide +kernel
theorem dX13_putsOfRows_380 : decode cX13_putsOfRows 380 = .ok (.invokevirtual 513, 3) := by decide +kernel
theorem dX13_putsOfRows_383 : decode cX13_putsOfRows 383 = .ok (.iload 8, 2) := by decide +kernel
theorem dX13_putsOfRows_385 : decode cX13_putsOfRows 385 = .ok (.iload 10, 2) := by decide +kernel
theorem dX13_putsOfRows_387 : decode cX13_putsOfRows 387 = .ok (.iconst 1, 1) := by decide +kernel
theorem dX13_putsOfRows_388 : decode cX13_putsOfRows 388 = .ok (.iadd, 1) := by decide +kernel
theorem dX13_putsOfRows_389 : decode cX13_putsOfRows 389 = .ok (.iadd, 1) := by decide +kernel
theorem dX13_putsOfRows_390 : decode cX13_putsOfRows 390 = .ok (.istore 8, 2) := by decide +kernel
theorem dX13_putsOfRows_392 : decode cX13_putsOfRows 392 = .ok (.iinc 9 1, 3) := by decide +kernel
theorem dX13_putsOfRows_395 : decode cX13_putsOfRows 395 = .ok (.goto (-157), 3) := by decide +kernel
theorem dX13_putsOfRows_398 : decode cX13_putsOfRows 398 = .ok (.aload_n 0, 1) := by decide +kernel
theorem dX13_putsOfRows_399 : decode cX13_putsOfRows 399 = .ok (.aload_n 0, 1) := by decide +kernel
theorem dX13_putsOfRows_400 : decode cX13_putsOfRows 400 = .ok (.getfield 213, 3) := by decide +kernel
theorem dX13_putsOfRows_403 : decode cX13_putsOfRows 403 = .ok (.iload_n 3, 1) := by decide +kernel
theorem dX13_putsOfRows_404 : decode cX13_putsOfRows 404 = .ok (.invokevirtual 510, 3) := by decide +kernel
theorem dX13_putsOfRows_407 : decode cX13_putsOfRows 407 = .ok (.iconst 1, 1) := by decide +kernel
theorem dX13_putsOfRows_408 : decode cX13_putsOfRows 408 = .ok (.ireturn, 1) := by decide +kernel
theorem dX13_pastes_0 : decode cX13_pastes 0 = .ok (.iload_n 1, 1) := by decide +kernel
theorem dX13_pastes_1 : decode cX13_pastes 1 = .ok (.ifCond .ne 8, 3) := by decide +kernel
theorem dX13_pastes_4 : decode cX13_pastes 4 = .ok (.bipush 37, 2) := by decide +kernel
theorem dX13_pastes_6 : decode cX13_pastes 6 = .ok (.goto 7, 3) := by decide +kernel
theorem dX13_pastes_9 : decode cX13_pastes 9 = .ok (.iload_n 1, 1) := by decide +kernel
theorem dX13_pastes_10 : decode cX13_pastes 10 = .ok (.invokestatic 457, 3) := by decide +kernel
theorem dX13_pastes_13 : decode cX13_pastes 13 = .ok (.istore 4, 2) := by decide +kernel
theorem dX13_pastes_15 : decode cX13_pastes 15 = .ok (.iload_n 3, 1) := by decide +kernel
theorem dX13_pastes_16 : decode cX13_pastes 16 = .ok (.ifCond .ne 15, 3) := by decide +kernel
theorem dX13_pastes_19 : decode cX13_pastes 19 = .ok (.aload_n 0, 1) := by decide +kernel
theorem dX13_pastes_20 : decode cX13_pastes 20 = .ok (.getfield 17, 3) := by decide +kernel
theorem dX13_pastes_23 : decode cX13_pastes 23 = .ok (.aload_n 0, 1) := by decide +kernel
theorem dX13_pastes_24 : decode cX13_pastes 24 = .ok (.getfield 213, 3) := by decide +kernel
theorem dX13_pastes_27 : decode cX13_pastes 27 = .ok (.iaload, 1) := by decide +kernel
theorem dX13_pastes_28 : decode cX13_pastes 28 = .ok (.ifCond .ne 10, 3) := by decide +kernel
theorem dX13_pastes_31 : decode cX13_pastes 31 = .ok (.aload_n 0, 1) := by decide +kernel
theorem dX13_pastes_32 : decode cX13_pastes 32 = .ok (.getfield 216, 3) := by decide +kernel
theorem dX13_pastes_35 : decode cX13_pastes 35 = .ok (.goto 9, 3) := by decide +kernel
theorem dX13_pastes_38 : decode cX13_pastes 38 = .ok (.aload_n 0, 1) := by decide +kernel
theorem dX13_pastes_39 : decode cX13_pastes 39 = .ok (.getfield 216, 3) := by decide +kernel
theorem dX13_pastes_42 : decode cX13_pastes 42 = .ok (.iconst 1, 1) := by decide +kernel
theorem dX13_pastes_43 : decode cX13_pastes 43 = .ok (.iadd, 1) := by decide +kernel
theorem dX13_pastes_44 : decode cX13_pastes 44 = .ok (.istore 5, 2) := by decide +kernel
theorem dX13_pastes_46 : decode cX13_pastes 46 = .ok (.iload 4, 2) := by decide +kernel
theorem dX13_pastes_48 : decode cX13_pastes 48 = .ok (.bipush 38, 2) := by decide +kernel
theorem dX13_pastes_50 : decode cX13_pastes 50 = .ok (.if_icmp .eq 13, 3) := by decide +kernel
theorem dX13_pastes_53 : decode cX13_pastes 53 = .ok (.aload_n 0, 1) := by decide +kernel
theorem dX13_pastes_54 : decode cX13_pastes 54 = .ok (.getfield 23, 3) := by decide +kernel
theorem dX13_pastes_57 : decode cX13_pastes 57 = .ok (.iload 4, 2) := by decide +kernel
theorem dX13_pastes_59 : decode cX13_pastes 59 = .ok (.iaload, 1) := by decide +kernel
theorem dX13_pastes_60 : decode cX13_pastes 60 = .ok (.ifCond .ne 5, 3) := by decide +kernel
theorem dX13_pastes_63 : decode cX13_pastes 63 = .ok (.iconst 0, 1) := by decide +kernel
theorem dX13_pastes_64 : decode cX13_pastes 64 = .ok (.ireturn, 1) := by decide +kernel
theorem dX13_pastes_65 : decode cX13_pastes 65 = .ok (.aload_n 0, 1) := by decide +kernel
theorem dX13_pastes_66 : decode cX13_pastes 66 = .ok (.getfield 23, 3) := by decide +kernel
theorem dX13_pastes_69 : decode cX13_pastes 69 = .ok (.iload 4, 2) := by decide +kernel
theorem dX13_pastes_71 : decode cX13_pastes 71 = .ok (.iaload, 1) := by decide +kernel
theorem dX13_pastes_72 : decode cX13_pastes 72 = .ok (.iconst 2, 1) := by decide +kernel
theorem dX13_pastes_73 : decode cX13_pastes 73 = .ok (.if_icmp .ne 36, 3) := by decide +kernel
theorem dX13_pastes_76 : decode cX13_pastes 76 = .ok (.aload_n 0, 1) := by decide +kernel
theorem dX13_pastes_77 : decode cX13_pastes 77 = .ok (.iload 4, 2) := by decide +kernel
theorem dX13_pastes_79 : decode cX13_pastes 79 = .ok (.iload_n 2, 1) := by decide +kernel
theorem dX13_pastes_80 : decode cX13_pastes 80 = .ok (.iload_n 3, 1) := by decide +kernel
theorem dX13_pastes_81 : decode cX13_pastes 81 = .ok (.ifCond .eq 14, 3) := by decide +kernel
theorem dX13_pastes_84 : decode cX13_pastes 84 = .ok (.aload_n 0, 1) := by decide +kernel
theorem dX13_pastes_85 : decode cX13_pastes 85 = .ok (.aload_n 0, 1) := by decide +kernel
theorem dX13_pastes_86 : decode cX13_pastes 86 = .ok (.getfield 213, 3) := by decide +kernel
theorem dX13_pastes_89 : decode cX13_pastes 89 = .ok (.invokevirtual 346, 3) := by decide +kernel
theorem dX13_pastes_92 : decode cX13_pastes 92 = .ok (.goto 13, 3) := by decide +kernel
theorem dX13_pastes_95 : decode cX13_pastes 95 = .ok (.aload_n 0, 1) := by decide +kernel
theorem dX13_pastes_96 : decode cX13_pastes 96 = .ok (.aload_n 0, 1) := by decide +kernel
theorem dX13_pastes_97 : decode cX13_pastes 97 = .ok (.getfield 213, 3) := by decide +kernel
theorem dX13_pastes_100 : decode cX13_pastes 100 = .ok (.invokevirtual 343, 3) := by decide +kernel
theorem dX13_pastes_103 : decode cX13_pastes 103 = .ok (.iconst 1, 1) := by decide +kernel
theorem dX13_pastes_104 : decode cX13_pastes 104 = .ok (.iadd, 1) := by decide +kernel
theorem dX13_pastes_105 : decode cX13_pastes 105 = .ok (.invokevirtual 560, 3) := by decide +kernel
theorem dX13_pastes_108 : decode cX13_pastes 108 = .ok (.ireturn, 1) := by decide +kernel
theorem dX13_pastes_109 : decode cX13_pastes 109 = .ok (.aload_n 0, 1) := by decide +kernel
theorem dX13_pastes_110 : decode cX13_pastes 110 = .ok (.getfield 23, 3) := by decide +kernel
theorem dX13_pastes_113 : decode cX13_pastes 113 = .ok (.iload 4, 2) := by decide +kernel
theorem dX13_pastes_115 : decode cX13_pastes 115 = .ok (.iaload, 1) := by decide +kernel
theorem dX13_pastes_116 : decode cX13_pastes 116 = .ok (.iconst 1, 1) := by decide +kernel
theorem dX13_pastes_117 : decode cX13_pastes 117 = .ok (.if_icmp .ne 15, 3) := by decide +kernel
theorem dX13_pastes_120 : decode cX13_pastes 120 = .ok (.aload_n 0, 1) := by decide +kernel
theorem dX13_pastes_121 : decode cX13_pastes 121 = .ok (.iload 4, 2) := by decide +kernel
theorem dX13_pastes_123 : decode cX13_pastes 123 = .ok (.iload_n 2, 1) := by decide +kernel
theorem dX13_pastes_124 : decode cX13_pastes 124 = .ok (.iload 5, 2) := by decide +kernel
theorem dX13_pastes_126 : decode cX13_pastes 126 = .ok (.invokevirtual 563, 3) := by decide +kernel
theorem dX13_pastes_129 : decode cX13_pastes 129 = .ok (.goto 12, 3) := by decide +kernel
theorem dX13_pastes_132 : decode cX13_pastes 132 = .ok (.aload_n 0, 1) := by decide +kernel
theorem dX13_pastes_133 : decode cX13_pastes 133 = .ok (.iload 4, 2) := by decide +kernel
theorem dX13_pastes_135 : decode cX13_pastes 135 = .ok (.iload_n 2, 1) := by decide +kernel
theorem dX13_pastes_136 : decode cX13_pastes 136 = .ok (.iload 5, 2) := by decide +kernel
theorem dX13_pastes_138 : decode cX13_pastes 138 = .ok (.invokevirtual 566, 3) := by decide +kernel
theorem dX13_pastes_141 : decode cX13_pastes 141 = .ok (.ireturn, 1) := by decide +kernel
theorem dX13_beginsInsertion_0 : decode cX13_beginsInsertion 0 = .ok (.iconst 0, 1) := by decide +kernel
theorem dX13_beginsInsertion_1 : decode cX13_beginsInsertion 1 = .ok (.istore_n 3, 1) := by decide +kernel
theorem dX13_beginsInsertion_2 : decode cX13_beginsInsertion 2 = .ok (.iload_n 3, 1) := by decide +kernel
theorem dX13_beginsInsertion_3 : decode cX13_beginsInsertion 3 = .ok (.aload_n 0, 1) := by decide +kernel
theorem dX13_beginsInsertion_4 : decode cX13_beginsInsertion 4 = .ok (.getfield 17, 3) := by decide +kernel
theorem dX13_beginsInsertion_7 : decode cX13_beginsInsertion 7 = .ok (.aload_n 0, 1) := by decide +kernel
theorem dX13_beginsInsertion_8 : decode cX13_beginsInsertion 8 = .ok (.getfield 213, 3) := by decide +kernel
theorem dX13_beginsInsertion_11 : decode cX13_beginsInsertion 11 = .ok (.iaload, 1) := by decide +kernel
theorem dX13_beginsInsertion_12 : decode cX13_beginsInsertion 12 = .ok (.if_icmp .ge 23, 3) := by decide +kernel
theorem dX13_beginsInsertion_15 : decode cX13_beginsInsertion 15 = .ok (.aload_n 0, 1) := by decide +kernel
theorem dX13_beginsInsertion_16 : decode cX13_beginsInsertion 16 = .ok (.aload_n 0, 1) := by decide +kernel
theorem dX13_beginsInsertion_17 : decode cX13_beginsInsertion 17 = .ok (.getfield 213, 3) := by decide +kernel
theorem dX13_beginsInsertion_20 : decode cX13_beginsInsertion 20 = .ok (.iload_n 3, 1) := by decide +kernel
theorem dX13_beginsInsertion_21 : decode cX13_beginsInsertion 21 = .ok (.invokevirtual 206, 3) := by decide +kernel
theorem dX13_beginsInsertion_24 : decode cX13_beginsInsertion 24 = .ok (.bipush 32, 2) := by decide +kernel
theorem dX13_beginsInsertion_26 : decode cX13_beginsInsertion 26 = .ok (.if_icmp .ne 9, 3) := by decide +kernel
theorem dX13_beginsInsertion_29 : decode cX13_beginsInsertion 29 = .ok (.iinc 3 1, 3) := by decide +kernel
theorem dX13_beginsInsertion_32 : decode cX13_beginsInsertion 32 = .ok (.goto (-30), 3) := by decide +kernel
theorem dX13_beginsInsertion_35 : decode cX13_beginsInsertion 35 = .ok (.iload_n 1, 1) := by decide +kernel
theorem dX13_beginsInsertion_36 : decode cX13_beginsInsertion 36 = .ok (.lookupswitch 116 #[(65, 97), (73, 86), (97, 58), (105, 44)], 44) := by decide +kernel
theorem dX13_beginsInsertion_80 : decode cX13_beginsInsertion 80 = .ok (.aload_n 0, 1) := by decide +kernel
theorem dX13_beginsInsertion_81 : decode cX13_beginsInsertion 81 = .ok (.aload_n 0, 1) := by decide +kernel
theorem dX13_beginsInsertion_82 : decode cX13_beginsInsertion 82 = .ok (.getfield 213, 3) := by decide +kernel
theorem dX13_beginsInsertion_85 : decode cX13_beginsInsertion 85 = .ok (.aload_n 0, 1) := by decide +kernel
theorem dX13_beginsInsertion_86 : decode cX13_beginsInsertion 86 = .ok (.getfield 216, 3) := by decide +kernel
theorem dX13_beginsInsertion_89 : decode cX13_beginsInsertion 89 = .ok (.iload_n 2, 1) := by decide +kernel
theorem dX13_beginsInsertion_90 : decode cX13_beginsInsertion 90 = .ok (.invokevirtual 504, 3) := by decide +kernel
theorem dX13_beginsInsertion_93 : decode cX13_beginsInsertion 93 = .ok (.ireturn, 1) := by decide +kernel
theorem dX13_beginsInsertion_94 : decode cX13_beginsInsertion 94 = .ok (.aload_n 0, 1) := by decide +kernel
theorem dX13_beginsInsertion_95 : decode cX13_beginsInsertion 95 = .ok (.aload_n 0, 1) := by decide +kernel
theorem dX13_beginsInsertion_96 : decode cX13_beginsInsertion 96 = .ok (.getfield 213, 3) := by decide +kernel
theorem dX13_beginsInsertion_99 : decode cX13_beginsInsertion 99 = .ok (.aload_n 0, 1) := by decide +kernel
theorem dX13_beginsInsertion_100 : decode cX13_beginsInsertion 100 = .ok (.getfield 216, 3) := by decide +kernel
theorem dX13_beginsInsertion_103 : decode cX13_beginsInsertion 103 = .ok (.iconst 1, 1) := by decide +kernel
theorem dX13_beginsInsertion_104 : decode cX13_beginsInsertion 104 = .ok (.iadd, 1) := by decide +kernel
theorem dX13_beginsInsertion_105 : decode cX13_beginsInsertion 105 = .ok (.aload_n 0, 1) := by decide +kernel
theorem dX13_beginsInsertion_106 : decode cX13_beginsInsertion 106 = .ok (.getfield 17, 3) := by decide +kernel
theorem dX13_beginsInsertion_109 : decode cX13_beginsInsertion 109 = .ok (.aload_n 0, 1) := by decide +kernel
theorem dX13_beginsInsertion_110 : decode cX13_beginsInsertion 110 = .ok (.getfield 213, 3) := by decide +kernel
theorem dX13_beginsInsertion_113 : decode cX13_beginsInsertion 113 = .ok (.iaload, 1) := by decide +kernel
theorem dX13_beginsInsertion_114 : decode cX13_beginsInsertion 114 = .ok (.invokestatic 257, 3) := by decide +kernel
theorem dX13_beginsInsertion_117 : decode cX13_beginsInsertion 117 = .ok (.iload_n 2, 1) := by decide +kernel
theorem dX13_beginsInsertion_118 : decode cX13_beginsInsertion 118 = .ok (.invokevirtual 504, 3) := by decide +kernel
theorem dX13_beginsInsertion_121 : decode cX13_beginsInsertion 121 = .ok (.ireturn, 1) := by decide +kernel
theorem dX13_beginsInsertion_122 : decode cX13_beginsInsertion 122 = .ok (.aload_n 0, 1) := by decide +kernel
theorem dX13_beginsInsertion_123 : decode cX13_beginsInsertion 123 = .ok (.aload_n 0, 1) := by decide +kernel
theorem dX13_beginsInsertion_124 : decode cX13_beginsInsertion 124 = .ok (.getfield 213, 3) := by decide +kernel
theorem dX13_beginsInsertion_127 : decode cX13_beginsInsertion 127 = .ok (.iload_n 3, 1) := by decide +kernel
theorem dX13_beginsInsertion_128 : decode cX13_beginsInsertion 128 = .ok (.iload_n 2, 1) := by decide +kernel
theorem dX13_beginsInsertion_129 : decode cX13_beginsInsertion 129 = .ok (.invokevirtual 504, 3) := by decide +kernel
theorem dX13_beginsInsertion_132 : decode cX13_beginsInsertion 132 = .ok (.ireturn, 1) := by decide +kernel
theorem dX13_beginsInsertion_133 : decode cX13_beginsInsertion 133 = .ok (.aload_n 0, 1) := by decide +kernel
theorem dX13_beginsInsertion_134 : decode cX13_beginsInsertion 134 = .ok (.aload_n 0, 1) := by decide +kernel
theorem dX13_beginsInsertion_135 : decode cX13_beginsInsertion 135 = .ok (.getfield 213, 3) := by decide +kernel
theorem dX13_beginsInsertion_138 : decode cX13_beginsInsertion 138 = .ok (.aload_n 0, 1) := by decide +kernel
theorem dX13_beginsInsertion_139 : decode cX13_beginsInsertion 139 = .ok (.getfield 17, 3) := by decide +kernel
theorem dX13_beginsInsertion_142 : decode cX13_beginsInsertion 142 = .ok (.aload_n 0, 1) := by decide +kernel
theorem dX13_beginsInsertion_143 : decode cX13_beginsInsertion 143 = .ok (.getfield 213, 3) := by decide +kernel
theorem dX13_beginsInsertion_146 : decode cX13_beginsInsertion 146 = .ok (.iaload, 1) := by decide +kernel
theorem dX13_beginsInsertion_147 : decode cX13_beginsInsertion 147 = .ok (.iload_n 2, 1) := by decide +kernel
theorem dX13_beginsInsertion_148 : decode cX13_beginsInsertion 148 = .ok (.invokevirtual 504, 3) := by decide +kernel
theorem dX13_beginsInsertion_151 : decode cX13_beginsInsertion 151 = .ok (.ireturn, 1) := by decide +kernel
theorem dX13_beginsInsertion_152 : decode cX13_beginsInsertion 152 = .ok (.aload_n 0, 1) := by decide +kernel
theorem dX13_beginsInsertion_153 : decode cX13_beginsInsertion 153 = .ok (.getfield 13, 3) := by decide +kernel
theorem dX13_beginsInsertion_156 : decode cX13_beginsInsertion 156 = .ok (.bipush 40, 2) := by decide +kernel
theorem dX13_beginsInsertion_158 : decode cX13_beginsInsertion 158 = .ok (.if_icmp .ne 5, 3) := by decide +kernel
theorem dX13_beginsInsertion_161 : decode cX13_beginsInsertion 161 = .ok (.iconst 0, 1) := by decide +kernel
theorem dX13_beginsInsertion_162 : decode cX13_beginsInsertion 162 = .ok (.ireturn, 1) := by decide +kernel
theorem dX13_beginsInsertion_163 : decode cX13_beginsInsertion 163 = .ok (.iload_n 1, 1) := by decide +kernel
theorem dX13_beginsInsertion_164 : decode cX13_beginsInsertion 164 = .ok (.bipush 111, 2) := by decide +kernel
theorem dX13_beginsInsertion_166 : decode cX13_beginsInsertion 166 = .ok (.if_icmp .ne 16, 3) := by decide +kernel
theorem dX13_beginsInsertion_169 : decode cX13_beginsInsertion 169 = .ok (.aload_n 0, 1) := by decide +kernel
theorem dX13_beginsInsertion_170 : decode cX13_beginsInsertion 170 = .ok (.aload_n 0, 1) := by decide +kernel
theorem dX13_beginsInsertion_171 : decode cX13_beginsInsertion 171 = .ok (.getfield 213, 3) := by decide +kernel
theorem dX13_beginsInsertion_174 : decode cX13_beginsInsertion 174 = .ok (.invokevirtual 343, 3) := by decide +kernel
theorem dX13_beginsInsertion_177 : decode cX13_beginsInsertion 177 = .ok (.iconst 1, 1) := by decide +kernel
theorem dX13_beginsInsertion_178 : decode cX13_beginsInsertion 178 = .ok (.iadd, 1) := by decide +kernel
theorem dX13_beginsInsertion_179 : decode cX13_beginsInsertion 179 = .ok (.goto 11, 3) := by decide +kernel
theorem dX13_beginsInsertion_182 : decode cX13_beginsInsertion 182 = .ok (.aload_n 0, 1) := by decide +kernel
theorem dX13_beginsInsertion_183 : decode cX13_beginsInsertion 183 = .ok (.aload_n 0, 1) := by decide +kernel
theorem dX13_beginsInsertion_184 : decode cX13_beginsInsertion 184 = .ok (.getfield 213, 3) := by decide +kernel
theorem dX13_beginsInsertion_187 : decode cX13_beginsInsertion 187 = .ok (.invokevirtual 346, 3) := by decide +kernel
theorem dX13_beginsInsertion_190 : decode cX13_beginsInsertion 190 = .ok (.istore 4, 2) := by decide +kernel
theorem dX13_beginsInsertion_192 : decode cX13_beginsInsertion 192 = .ok (.aload_n 0, 1) := by decide +kernel
theorem dX13_beginsInsertion_193 : decode cX13_beginsInsertion 193 = .ok (.iload 4, 2) := by decide +kernel
theorem dX13_beginsInsertion_195 : decode cX13_beginsInsertion 195 = .ok (.iconst 1, 1) := by decide +kernel
theorem dX13_beginsInsertion_196 : decode cX13_beginsInsertion 196 = .ok (.invokevirtual 278, 3) := by decide +kernel
theorem dX13_beginsInsertion_199 : decode cX13_beginsInsertion 199 = .ok (.aload_n 0, 1) := by decide +kernel
theorem dX13_beginsInsertion_200 : decode cX13_beginsInsertion 200 = .ok (.iload 4, 2) := by decide +kernel
theorem dX13_beginsInsertion_202 : decode cX13_beginsInsertion 202 = .ok (.iconst 0, 1) := by decide +kernel
theorem dX13_beginsInsertion_203 : decode cX13_beginsInsertion 203 = .ok (.iconst 1, 1) := by decide +kernel
theorem dX13_beginsInsertion_204 : decode cX13_beginsInsertion 204 = .ok (.invokevirtual 504, 3) := by decide +kernel
theorem dX13_beginsInsertion_207 : decode cX13_beginsInsertion 207 = .ok (.ireturn, 1) := by decide +kernel
theorem dX13_isState_0 : decode cX13_isState 0 = .ok (.aload_n 0, 1) := by decide +kernel
theorem dX13_isState_1 : decode cX13_isState 1 = .ok (.getfield 63, 3) := by decide +kernel
theorem dX13_isState_4 : decode cX13_isState 4 = .ok (.iload_n 1, 1) := by decide +kernel
theorem dX13_isState_5 : decode cX13_isState 5 = .ok (.iaload, 1) := by decide +kernel
theorem dX13_isState_6 : decode cX13_isState 6 = .ok (.aload_n 0, 1) := by decide +kernel
theorem dX13_isState_7 : decode cX13_isState 7 = .ok (.getfield 13, 3) := by decide +kernel
theorem dX13_isState_10 : decode cX13_isState 10 = .ok (.if_icmp .ne 7, 3) := by decide +kernel
theorem dX13_isState_13 : decode cX13_isState 13 = .ok (.iconst 1, 1) := by decide +kernel
theorem dX13_isState_14 : decode cX13_isState 14 = .ok (.goto 4, 3) := by decide +kernel
theorem dX13_isState_17 : decode cX13_isState 17 = .ok (.iconst 0, 1) := by decide +kernel
theorem dX13_isState_18 : decode cX13_isState 18 = .ok (.istore_n 2, 1) := by decide +kernel
theorem dX13_isState_19 : decode cX13_isState 19 = .ok (.iconst 0, 1) := by decide +kernel
theorem dX13_isState_20 : decode cX13_isState 20 = .ok (.istore_n 3, 1) := by decide +kernel
theorem dX13_isState_21 : decode cX13_isState 21 = .ok (.iload_n 3, 1) := by decide +kernel
theorem dX13_isState_22 : decode cX13_isState 22 = .ok (.aload_n 0, 1) := by decide +kernel
theorem dX13_isState_23 : decode cX13_isState 23 = .ok (.getfield 13, 3) := by decide +kernel
theorem dX13_isState_26 : decode cX13_isState 26 = .ok (.if_icmp .ge 20, 3) := by decide +kernel
theorem dX13_isState_29 : decode cX13_isState 29 = .ok (.iload_n 2, 1) := by decide +kernel
theorem dX13_isState_30 : decode cX13_isState 30 = .ok (.ifCond .eq 16, 3) := by decide +kernel
theorem dX13_isState_33 : decode cX13_isState 33 = .ok (.aload_n 0, 1) := by decide +kernel
theorem dX13_isState_34 : decode cX13_isState 34 = .ok (.iload_n 1, 1) := by decide +kernel
theorem dX13_isState_35 : decode cX13_isState 35 = .ok (.iload_n 3, 1) := by decide +kernel
theorem dX13_isState_36 : decode cX13_isState 36 = .ok (.invokevirtual 569, 3) := by decide +kernel
theorem dX13_isState_39 : decode cX13_isState 39 = .ok (.istore_n 2, 1) := by decide +kernel
theorem dX13_isState_40 : decode cX13_isState 40 = .ok (.iinc 3 1, 3) := by decide +kernel
theorem dX13_isState_43 : decode cX13_isState 43 = .ok (.goto (-22), 3) := by decide +kernel
theorem dX13_isState_46 : decode cX13_isState 46 = .ok (.iload_n 2, 1) := by decide +kernel
theorem dX13_isState_47 : decode cX13_isState 47 = .ok (.ireturn, 1) := by decide +kernel
theorem dX13_isSameLine_0 : decode cX13_isSameLine 0 = .ok (.aload_n 0, 1) := by decide +kernel
theorem dX13_isSameLine_1 : decode cX13_isSameLine 1 = .ok (.getfield 66, 3) := by decide +kernel
theorem dX13_isSameLine_4 : decode cX13_isSameLine 4 = .ok (.bipush 40, 2) := by decide +kernel
theorem dX13_isSameLine_6 : decode cX13_isSameLine 6 = .ok (.iload_n 1, 1) := by decide +kernel
theorem dX13_isSameLine_7 : decode cX13_isSameLine 7 = .ok (.imul, 1) := by decide +kernel
theorem dX13_isSameLine_8 : decode cX13_isSameLine 8 = .ok (.iload_n 2, 1) := by decide +kernel
theorem dX13_isSameLine_9 : decode cX13_isSameLine 9 = .ok (.iadd, 1) := by decide +kernel
theorem dX13_isSameLine_10 : decode cX13_isSameLine 10 = .ok (.iaload, 1) := by decide +kernel
theorem dX13_isSameLine_11 : decode cX13_isSameLine 11 = .ok (.aload_n 0, 1) := by decide +kernel
theorem dX13_isSameLine_12 : decode cX13_isSameLine 12 = .ok (.getfield 17, 3) := by decide +kernel
theorem dX13_isSameLine_15 : decode cX13_isSameLine 15 = .ok (.iload_n 2, 1) := by decide +kernel
theorem dX13_isSameLine_16 : decode cX13_isSameLine 16 = .ok (.iaload, 1) := by decide +kernel
theorem dX13_isSameLine_17 : decode cX13_isSameLine 17 = .ok (.if_icmp .ne 7, 3) := by decide +kernel
theorem dX13_isSameLine_20 : decode cX13_isSameLine 20 = .ok (.iconst 1, 1) := by decide +kernel
theorem dX13_isSameLine_21 : decode cX13_isSameLine 21 = .ok (.goto 4, 3) := by decide +kernel
theorem dX13_isSameLine_24 : decode cX13_isSameLine 24 = .ok (.iconst 0, 1) := by decide +kernel
theorem dX13_isSameLine_25 : decode cX13_isSameLine 25 = .ok (.istore_n 3, 1) := by decide +kernel
theorem dX13_isSameLine_26 : decode cX13_isSameLine 26 = .ok (.iconst 0, 1) := by decide +kernel
theorem dX13_isSameLine_27 : decode cX13_isSameLine 27 = .ok (.istore 4, 2) := by decide +kernel
theorem dX13_isSameLine_29 : decode cX13_isSameLine 29 = .ok (.iload 4, 2) := by decide +kernel
theorem dX13_isSameLine_31 : decode cX13_isSameLine 31 = .ok (.aload_n 0, 1) := by decide +kernel
theorem dX13_isSameLine_32 : decode cX13_isSameLine 32 = .ok (.getfield 17, 3) := by decide +kernel
theorem dX13_isSameLine_35 : decode cX13_isSameLine 35 = .ok (.iload_n 2, 1) := by decide +kernel
theorem dX13_isSameLine_36 : decode cX13_isSameLine 36 = .ok (.iaload, 1) := by decide +kernel
theorem dX13_isSameLine_37 : decode cX13_isSameLine 37 = .ok (.if_icmp .ge 46, 3) := by decide +kernel
theorem dX13_isSameLine_40 : decode cX13_isSameLine 40 = .ok (.iload_n 3, 1) := by decide +kernel
theorem dX13_isSameLine_41 : decode cX13_isSameLine 41 = .ok (.ifCond .eq 42, 3) := by decide +kernel
theorem dX13_isSameLine_44 : decode cX13_isSameLine 44 = .ok (.aload_n 0, 1) := by decide +kernel
theorem dX13_isSameLine_45 : decode cX13_isSameLine 45 = .ok (.getfield 70, 3) := by decide +kernel
theorem dX13_isSameLine_48 : decode cX13_isSameLine 48 = .ok (.bipush 60, 2) := by decide +kernel
theorem dX13_isSameLine_50 : decode cX13_isSameLine 50 = .ok (.bipush 40, 2) := by decide +kernel
theorem dX13_isSameLine_52 : decode cX13_isSameLine 52 = .ok (.iload_n 1, 1) := by decide +kernel
theorem dX13_isSameLine_53 : decode cX13_isSameLine 53 = .ok (.imul, 1) := by decide +kernel
theorem dX13_isSameLine_54 : decode cX13_isSameLine 54 = .ok (.iload_n 2, 1) := by decide +kernel
theorem dX13_isSameLine_55 : decode cX13_isSameLine 55 = .ok (.iadd, 1) := by decide +kernel
theorem dX13_isSameLine_56 : decode cX13_isSameLine 56 = .ok (.imul, 1) := by decide +kernel
theorem dX13_isSameLine_57 : decode cX13_isSameLine 57 = .ok (.iload 4, 2) := by decide +kernel
theorem dX13_isSameLine_59 : decode cX13_isSameLine 59 = .ok (.iadd, 1) := by decide +kernel
theorem dX13_isSameLine_60 : decode cX13_isSameLine 60 = .ok (.iaload, 1) := by decide +kernel
theorem dX13_isSameLine_61 : decode cX13_isSameLine 61 = .ok (.aload_n 0, 1) := by decide +kernel
theorem dX13_isSameLine_62 : decode cX13_isSameLine 62 = .ok (.iload_n 2, 1) := by decide +kernel
theorem dX13_isSameLine_63 : decode cX13_isSameLine 63 = .ok (.iload 4, 2) := by decide +kernel
theorem dX13_isSameLine_65 : decode cX13_isSameLine 65 = .ok (.invokevirtual 206, 3) := by decide +kernel
theorem dX13_isSameLine_68 : decode cX13_isSameLine 68 = .ok (.if_icmp .ne 7, 3) := by decide +kernel
theorem dX13_isSameLine_71 : decode cX13_isSameLine 71 = .ok (.iconst 1, 1) := by decide +kernel
theorem dX13_isSameLine_72 : decode cX13_isSameLine 72 = .ok (.goto 4, 3) := by decide +kernel
theorem dX13_isSameLine_75 : decode cX13_isSameLine 75 = .ok (.iconst 0, 1) := by decide +kernel
theorem dX13_isSameLine_76 : decode cX13_isSameLine 76 = .ok (.istore_n 3, 1) := by decide +kernel
theorem dX13_isSameLine_77 : decode cX13_isSameLine 77 = .ok (.iinc 4 1, 3) := by decide +kernel
theorem dX13_isSameLine_80 : decode cX13_isSameLine 80 = .ok (.goto (-51), 3) := by decide +kernel
theorem dX13_isSameLine_83 : decode cX13_isSameLine 83 = .ok (.iload_n 3, 1) := by decide +kernel
theorem dX13_isSameLine_84 : decode cX13_isSameLine 84 = .ok (.ireturn, 1) := by decide +kernel
theorem dX13_copiesState_0 : decode cX13_copiesState 0 = .ok (.aload_n 0, 1) := by decide +kernel
theorem dX13_copiesState_1 : decode cX13_copiesState 1 = .ok (.getfield 63, 3) := by decide +kernel
theorem dX13_copiesState_4 : decode cX13_copiesState 4 = .ok (.iload_n 1, 1) := by decide +kernel
theorem dX13_copiesState_5 : decode cX13_copiesState 5 = .ok (.aload_n 0, 1) := by decide +kernel
theorem dX13_copiesState_6 : decode cX13_copiesState 6 = .ok (.getfield 13, 3) := by decide +kernel
theorem dX13_copiesState_9 : decode cX13_copiesState 9 = .ok (.iastore, 1) := by decide +kernel
theorem dX13_copiesState_10 : decode cX13_copiesState 10 = .ok (.iconst 0, 1) := by decide +kernel
theorem dX13_copiesState_11 : decode cX13_copiesState 11 = .ok (.istore_n 2, 1) := by decide +kernel
theorem dX13_copiesState_12 : decode cX13_copiesState 12 = .ok (.iload_n 2, 1) := by decide +kernel
theorem dX13_copiesState_13 : decode cX13_copiesState 13 = .ok (.aload_n 0, 1) := by decide +kernel
theorem dX13_copiesState_14 : decode cX13_copiesState 14 = .ok (.getfield 13, 3) := by decide +kernel
theorem dX13_copiesState_17 : decode cX13_copiesState 17 = .ok (.if_icmp .ge 66, 3) := by decide +kernel
theorem dX13_copiesState_20 : decode cX13_copiesState 20 = .ok (.aload_n 0, 1) := by decide +kernel
theorem dX13_copiesState_21 : decode cX13_copiesState 21 = .ok (.getfield 66, 3) := by decide +kernel
theorem dX13_copiesState_24 : decode cX13_copiesState 24 = .ok (.bipush 40, 2) := by decide +kernel
theorem dX13_copiesState_26 : decode cX13_copiesState 26 = .ok (.iload_n 1, 1) := by decide +kernel
theorem dX13_copiesState_27 : decode cX13_copiesState 27 = .ok (.imul, 1) := by decide +kernel
theorem dX13_copiesState_28 : decode cX13_copiesState 28 = .ok (.iload_n 2, 1) := by decide +kernel
theorem dX13_copiesState_29 : decode cX13_copiesState 29 = .ok (.iadd, 1) := by decide +kernel
theorem dX13_copiesState_30 : decode cX13_copiesState 30 = .ok (.aload_n 0, 1) := by decide +kernel
theorem dX13_copiesState_31 : decode cX13_copiesState 31 = .ok (.getfield 17, 3) := by decide +kernel
theorem dX13_copiesState_34 : decode cX13_copiesState 34 = .ok (.iload_n 2, 1) := by decide +kernel
theorem dX13_copiesState_35 : decode cX13_copiesState 35 = .ok (.iaload, 1) := by decide +kernel
theorem dX13_copiesState_36 : decode cX13_copiesState 36 = .ok (.iastore, 1) := by decide +kernel
theorem dX13_copiesState_37 : decode cX13_copiesState 37 = .ok (.iconst 0, 1) := by decide +kernel
theorem dX13_copiesState_38 : decode cX13_copiesState 38 = .ok (.istore_n 3, 1) := by decide +kernel
theorem dX13_copiesState_39 : decode cX13_copiesState 39 = .ok (.iload_n 3, 1) := by decide +kernel
theorem dX13_copiesState_40 : decode cX13_copiesState 40 = .ok (.aload_n 0, 1) := by decide +kernel
theorem dX13_copiesState_41 : decode cX13_copiesState 41 = .ok (.getfield 17, 3) := by decide +kernel
theorem dX13_copiesState_44 : decode cX13_copiesState 44 = .ok (.iload_n 2, 1) := by decide +kernel
theorem dX13_copiesState_45 : decode cX13_copiesState 45 = .ok (.iaload, 1) := by decide +kernel
theorem dX13_copiesState_46 : decode cX13_copiesState 46 = .ok (.if_icmp .ge 31, 3) := by decide +kernel
theorem dX13_copiesState_49 : decode cX13_copiesState 49 = .ok (.aload_n 0, 1) := by decide +kernel
theorem dX13_copiesState_50 : decode cX13_copiesState 50 = .ok (.getfield 70, 3) := by decide +kernel
theorem dX13_copiesState_53 : decode cX13_copiesState 53 = .ok (.bipush 60, 2) := by decide +kernel
theorem dX13_copiesState_55 : decode cX13_copiesState 55 = .ok (.bipush 40, 2) := by decide +kernel
theorem dX13_copiesState_57 : decode cX13_copiesState 57 = .ok (.iload_n 1, 1) := by decide +kernel
theorem dX13_copiesState_58 : decode cX13_copiesState 58 = .ok (.imul, 1) := by decide +kernel
theorem dX13_copiesState_59 : decode cX13_copiesState 59 = .ok (.iload_n 2, 1) := by decide +kernel
theorem dX13_copiesState_60 : decode cX13_copiesState 60 = .ok (.iadd, 1) := by decide +kernel
theorem dX13_copiesState_61 : decode cX13_copiesState 61 = .ok (.imul, 1) := by decide +kernel
theorem dX13_copiesState_62 : decode cX13_copiesState 62 = .ok (.iload_n 3, 1) := by decide +kernel
theorem dX13_copiesState_63 : decode cX13_copiesState 63 = .ok (.iadd, 1) := by decide +kernel
theorem dX13_copiesState_64 : decode cX13_copiesState 64 = .ok (.aload_n 0, 1) := by decide +kernel
theorem dX13_copiesState_65 : decode cX13_copiesState 65 = .ok (.iload_n 2, 1) := by decide +kernel
theorem dX13_copiesState_66 : decode cX13_copiesState 66 = .ok (.iload_n 3, 1) := by decide +kernel
theorem dX13_copiesState_67 : decode cX13_copiesState 67 = .ok (.invokevirtual 206, 3) := by decide +kernel
theorem dX13_copiesState_70 : decode cX13_copiesState 70 = .ok (.iastore, 1) := by decide +kernel
theorem dX13_copiesState_71 : decode cX13_copiesState 71 = .ok (.iinc 3 1, 3) := by decide +kernel
theorem dX13_copiesState_74 : decode cX13_copiesState 74 = .ok (.goto (-35), 3) := by decide +kernel
theorem dX13_copiesState_77 : decode cX13_copiesState 77 = .ok (.iinc 2 1, 3) := by decide +kernel
theorem dX13_copiesState_80 : decode cX13_copiesState 80 = .ok (.goto (-68), 3) := by decide +kernel
theorem dX13_copiesState_83 : decode cX13_copiesState 83 = .ok (.return_, 1) := by decide +kernel
theorem dX13_keepsState_0 : decode cX13_keepsState 0 = .ok (.aload_n 0, 1) := by decide +kernel
theorem dX13_keepsState_1 : decode cX13_keepsState 1 = .ok (.aload_n 0, 1) := by decide +kernel
theorem dX13_keepsState_2 : decode cX13_keepsState 2 = .ok (.getfield 572, 3) := by decide +kernel
theorem dX13_keepsState_5 : decode cX13_keepsState 5 = .ok (.invokevirtual 575, 3) := by decide +kernel
theorem dX13_keepsState_8 : decode cX13_keepsState 8 = .ok (.ifCond .eq 4, 3) := by decide +kernel
theorem dX13_keepsState_11 : decode cX13_keepsState 11 = .ok (.return_, 1) := by decide +kernel
theorem dX13_keepsState_12 : decode cX13_keepsState 12 = .ok (.aload_n 0, 1) := by decide +kernel
theorem dX13_keepsState_13 : decode cX13_keepsState 13 = .ok (.getfield 60, 3) := by decide +kernel
theorem dX13_keepsState_16 : decode cX13_keepsState 16 = .ok (.bipush 99, 2) := by decide +kernel
theorem dX13_keepsState_18 : decode cX13_keepsState 18 = .ok (.if_icmp .ne 7, 3) := by decide +kernel
theorem dX13_keepsState_21 : decode cX13_keepsState 21 = .ok (.iconst 1, 1) := by decide +kernel
theorem dX13_keepsState_22 : decode cX13_keepsState 22 = .ok (.goto 4, 3) := by decide +kernel
theorem dX13_keepsState_25 : decode cX13_keepsState 25 = .ok (.iconst 0, 1) := by decide +kernel
theorem dX13_keepsState_26 : decode cX13_keepsState 26 = .ok (.istore_n 1, 1) := by decide +kernel
theorem dX13_keepsState_27 : decode cX13_keepsState 27 = .ok (.iload_n 1, 1) := by decide +kernel
theorem dX13_keepsState_28 : decode cX13_keepsState 28 = .ok (.ifCond .eq 7, 3) := by decide +kernel
theorem dX13_keepsState_31 : decode cX13_keepsState 31 = .ok (.iconst 0, 1) := by decide +kernel
theorem dX13_keepsState_32 : decode cX13_keepsState 32 = .ok (.goto 7, 3) := by decide +kernel
theorem dX13_keepsState_35 : decode cX13_keepsState 35 = .ok (.aload_n 0, 1) := by decide +kernel
theorem dX13_keepsState_36 : decode cX13_keepsState 36 = .ok (.getfield 60, 3) := by decide +kernel
theorem dX13_keepsState_39 : decode cX13_keepsState 39 = .ok (.istore_n 2, 1) := by decide +kernel
theorem dX13_keepsState_40 : decode cX13_keepsState 40 = .ok (.aload_n 0, 1) := by decide +kernel
theorem dX13_keepsState_41 : decode cX13_keepsState 41 = .ok (.getfield 73, 3) := by decide +kernel
theorem dX13_keepsState_44 : decode cX13_keepsState 44 = .ok (.iload_n 2, 1) := by decide +kernel
theorem dX13_keepsState_45 : decode cX13_keepsState 45 = .ok (.iload_n 1, 1) := by decide +kernel
theorem dX13_keepsState_46 : decode cX13_keepsState 46 = .ok (.ifCond .eq 7, 3) := by decide +kernel
theorem dX13_keepsState_49 : decode cX13_keepsState 49 = .ok (.iconst (-1), 1) := by decide +kernel
theorem dX13_keepsState_50 : decode cX13_keepsState 50 = .ok (.goto 7, 3) := by decide +kernel
theorem dX13_keepsState_53 : decode cX13_keepsState 53 = .ok (.aload_n 0, 1) := by decide +kernel
theorem dX13_keepsState_54 : decode cX13_keepsState 54 = .ok (.getfield 572, 3) := by decide +kernel
theorem dX13_keepsState_57 : decode cX13_keepsState 57 = .ok (.iastore, 1) := by decide +kernel
theorem dX13_keepsState_58 : decode cX13_keepsState 58 = .ok (.aload_n 0, 1) := by decide +kernel
theorem dX13_keepsState_59 : decode cX13_keepsState 59 = .ok (.iload_n 2, 1) := by decide +kernel
theorem dX13_keepsState_60 : decode cX13_keepsState 60 = .ok (.putfield 572, 3) := by decide +kernel
theorem dX13_keepsState_63 : decode cX13_keepsState 63 = .ok (.aload_n 0, 1) := by decide +kernel
theorem dX13_keepsState_64 : decode cX13_keepsState 64 = .ok (.iload_n 2, 1) := by decide +kernel
theorem dX13_keepsState_65 : decode cX13_keepsState 65 = .ok (.iconst 1, 1) := by decide +kernel
theorem dX13_keepsState_66 : decode cX13_keepsState 66 = .ok (.iadd, 1) := by decide +kernel
theorem dX13_keepsState_67 : decode cX13_keepsState 67 = .ok (.putfield 60, 3) := by decide +kernel
theorem dX13_keepsState_70 : decode cX13_keepsState 70 = .ok (.aload_n 0, 1) := by decide +kernel
theorem dX13_keepsState_71 : decode cX13_keepsState 71 = .ok (.iload_n 2, 1) := by decide +kernel
theorem dX13_keepsState_72 : decode cX13_keepsState 72 = .ok (.invokevirtual 191, 3) := by decide +kernel
theorem dX13_keepsState_75 : decode cX13_keepsState 75 = .ok (.return_, 1) := by decide +kernel
theorem dX13_goesState_0 : decode cX13_goesState 0 = .ok (.iconst (-1), 1) := by decide +kernel
theorem dX13_goesState_1 : decode cX13_goesState 1 = .ok (.istore_n 2, 1) := by decide +kernel
theorem dX13_goesState_2 : decode cX13_goesState 2 = .ok (.aload_n 0, 1) := by decide +kernel
theorem dX13_goesState_3 : decode cX13_goesState 3 = .ok (.getfield 63, 3) := by decide +kernel
theorem dX13_goesState_6 : decode cX13_goesState 6 = .ok (.iload_n 1, 1) := by decide +kernel
theorem dX13_goesState_7 : decode cX13_goesState 7 = .ok (.iaload, 1) := by decide +kernel
theorem dX13_goesState_8 : decode cX13_goesState 8 = .ok (.istore_n 3, 1) := by decide +kernel
theorem dX13_goesState_9 : decode cX13_goesState 9 = .ok (.aload_n 0, 1) := by decide +kernel
theorem dX13_goesState_10 : decode cX13_goesState 10 = .ok (.getfield 13, 3) := by decide +kernel
theorem dX13_goesState_13 : decode cX13_goesState 13 = .ok (.iload_n 3, 1) := by decide +kernel
theorem dX13_goesState_14 : decode cX13_goesState 14 = .ok (.invokestatic 257, 3) := by decide +kernel
theorem dX13_goesState_17 : decode cX13_goesState 17 = .ok (.iconst 1, 1) := by decide +kernel
theorem dX13_goesState_18 : decode cX13_goesState 18 = .ok (.isub, 1) := by decide +kernel
theorem dX13_goesState_19 : decode cX13_goesState 19 = .ok (.istore 4, 2) := by decide +kernel
theorem dX13_goesState_21 : decode cX13_goesState 21 = .ok (.iload 4, 2) := by decide +kernel
theorem dX13_goesState_23 : decode cX13_goesState 23 = .ok (.ifCond .lt 26, 3) := by decide +kernel
theorem dX13_goesState_26 : decode cX13_goesState 26 = .ok (.aload_n 0, 1) := by decide +kernel
theorem dX13_goesState_27 : decode cX13_goesState 27 = .ok (.iload_n 1, 1) := by decide +kernel
theorem dX13_goesState_28 : decode cX13_goesState 28 = .ok (.iload 4, 2) := by decide +kernel
theorem dX13_goesState_30 : decode cX13_goesState 30 = .ok (.invokevirtual 569, 3) := by decide +kernel
theorem dX13_goesState_33 : decode cX13_goesState 33 = .ok (.ifCond .eq 7, 3) := by decide +kernel
theorem dX13_goesState_36 : decode cX13_goesState 36 = .ok (.iload_n 2, 1) := by decide +kernel
theorem dX13_goesState_37 : decode cX13_goesState 37 = .ok (.goto 5, 3) := by decide +kernel
theorem dX13_goesState_40 : decode cX13_goesState 40 = .ok (.iload 4, 2) := by decide +kernel
theorem dX13_goesState_42 : decode cX13_goesState 42 = .ok (.istore_n 2, 1) := by decide +kernel
theorem dX13_goesState_43 : decode cX13_goesState 43 = .ok (.iinc 4 (-1), 3) := by decide +kernel
theorem dX13_goesState_46 : decode cX13_goesState 46 = .ok (.goto (-25), 3) := by decide +kernel
theorem dX13_goesState_49 : decode cX13_goesState 49 = .ok (.iload_n 2, 1) := by decide +kernel
theorem dX13_goesState_50 : decode cX13_goesState 50 = .ok (.iconst (-1), 1) := by decide +kernel
theorem dX13_goesState_51 : decode cX13_goesState 51 = .ok (.if_icmp .ne 22, 3) := by decide +kernel
theorem dX13_goesState_54 : decode cX13_goesState 54 = .ok (.iload_n 3, 1) := by decide +kernel
theorem dX13_goesState_55 : decode cX13_goesState 55 = .ok (.aload_n 0, 1) := by decide +kernel
theorem dX13_goesState_56 : decode cX13_goesState 56 = .ok (.getfield 13, 3) := by decide +kernel
theorem dX13_goesState_59 : decode cX13_goesState 59 = .ok (.if_icmp .eq 14, 3) := by decide +kernel
theorem dX13_goesState_62 : decode cX13_goesState 62 = .ok (.aload_n 0, 1) := by decide +kernel
theorem dX13_goesState_63 : decode cX13_goesState 63 = .ok (.getfield 13, 3) := by decide +kernel
theorem dX13_goesState_66 : decode cX13_goesState 66 = .ok (.iload_n 3, 1) := by decide +kernel
theorem dX13_goesState_67 : decode cX13_goesState 67 = .ok (.invokestatic 257, 3) := by decide +kernel
theorem dX13_goesState_70 : decode cX13_goesState 70 = .ok (.goto 4, 3) := by decide +kernel
theorem dX13_goesState_73 : decode cX13_goesState 73 = .ok (.iload_n 2, 1) := by decide +kernel
theorem dX13_goesState_74 : decode cX13_goesState 74 = .ok (.istore_n 2, 1) := by decide +kernel
theorem dX13_goesState_75 : decode cX13_goesState 75 = .ok (.iload_n 3, 1) := by decide +kernel
theorem dX13_goesState_76 : decode cX13_goesState 76 = .ok (.aload_n 0, 1) := by decide +kernel
theorem dX13_goesState_77 : decode cX13_goesState 77 = .ok (.getfield 13, 3) := by decide +kernel
theorem dX13_goesState_80 : decode cX13_goesState 80 = .ok (.if_icmp .ge 14, 3) := by decide +kernel
theorem dX13_goesState_83 : decode cX13_goesState 83 = .ok (.aload_n 0, 1) := by decide +kernel
theorem dX13_goesState_84 : decode cX13_goesState 84 = .ok (.iload_n 3, 1) := by decide +kernel
theorem dX13_goesState_85 : decode cX13_goesState 85 = .ok (.aload_n 0, 1) := by decide +kernel
theorem dX13_goesState_86 : decode cX13_goesState 86 = .ok (.getfield 13, 3) := by decide +kernel
theorem dX13_goesState_89 : decode cX13_goesState 89 = .ok (.iconst 1, 1) := by decide +kernel
theorem dX13_goesState_90 : decode cX13_goesState 90 = .ok (.isub, 1) := by decide +kernel
theorem dX13_goesState_91 : decode cX13_goesState 91 = .ok (.invokevirtual 266, 3) := by decide +kernel
theorem dX13_goesState_94 : decode cX13_goesState 94 = .ok (.aload_n 0, 1) := by decide +kernel
theorem dX13_goesState_95 : decode cX13_goesState 95 = .ok (.iload_n 3, 1) := by decide +kernel
theorem dX13_goesState_96 : decode cX13_goesState 96 = .ok (.putfield 13, 3) := by decide +kernel
theorem dX13_goesState_99 : decode cX13_goesState 99 = .ok (.iconst 0, 1) := by decide +kernel
theorem dX13_goesState_100 : decode cX13_goesState 100 = .ok (.istore 4, 2) := by decide +kernel
theorem dX13_goesState_102 : decode cX13_goesState 102 = .ok (.iload 4, 2) := by decide +kernel
theorem dX13_goesState_104 : decode cX13_goesState 104 = .ok (.aload_n 0, 1) := by decide +kernel
theorem dX13_goesState_105 : decode cX13_goesState 105 = .ok (.getfield 13, 3) := by decide +kernel
theorem dX13_goesState_108 : decode cX13_goesState 108 = .ok (.if_icmp .ge 80, 3) := by decide +kernel
theorem dX13_goesState_111 : decode cX13_goesState 111 = .ok (.aload_n 0, 1) := by decide +kernel
theorem dX13_goesState_112 : decode cX13_goesState 112 = .ok (.getfield 17, 3) := by decide +kernel
theorem dX13_goesState_115 : decode cX13_goesState 115 = .ok (.iload 4, 2) := by decide +kernel
theorem dX13_goesState_117 : decode cX13_goesState 117 = .ok (.aload_n 0, 1) := by decide +kernel
theorem dX13_goesState_118 : decode cX13_goesState 118 = .ok (.getfield 66, 3) := by decide +kernel
theorem dX13_goesState_121 : decode cX13_goesState 121 = .ok (.bipush 40, 2) := by decide +kernel
theorem dX13_goesState_123 : decode cX13_goesState 123 = .ok (.iload_n 1, 1) := by decide +kernel
theorem dX13_goesState_124 : decode cX13_goesState 124 = .ok (.imul, 1) := by decide +kernel
theorem dX13_goesState_125 : decode cX13_goesState 125 = .ok (.iload 4, 2) := by decide +kernel
theorem dX13_goesState_127 : decode cX13_goesState 127 = .ok (.iadd, 1) := by decide +kernel
theorem dX13_goesState_128 : decode cX13_goesState 128 = .ok (.iaload, 1) := by decide +kernel
theorem dX13_goesState_129 : decode cX13_goesState 129 = .ok (.iastore, 1) := by decide +kernel
theorem dX13_goesState_130 : decode cX13_goesState 130 = .ok (.iconst 0, 1) := by decide +kernel
theorem dX13_goesState_131 : decode cX13_goesState 131 = .ok (.istore 5, 2) := by decide +kernel
theorem dX13_goesState_133 : decode cX13_goesState 133 = .ok (.iload 5, 2) := by decide +kernel
theorem dX13_goesState_135 : decode cX13_goesState 135 = .ok (.aload_n 0, 1) := by decide +kernel
theorem dX13_goesState_136 : decode cX13_goesState 136 = .ok (.getfield 17, 3) := by decide +kernel
theorem dX13_goesState_139 : decode cX13_goesState 139 = .ok (.iload 4, 2) := by decide +kernel
theorem dX13_goesState_141 : decode cX13_goesState 141 = .ok (.iaload, 1) := by decide +kernel
theorem dX13_goesState_142 : decode cX13_goesState 142 = .ok (.if_icmp .ge 40, 3) := by decide +kernel
theorem dX13_goesState_145 : decode cX13_goesState 145 = .ok (.aload_n 0, 1) := by decide +kernel
theorem dX13_goesState_146 : decode cX13_goesState 146 = .ok (.getfield 20, 3) := by decide +kernel
theorem dX13_goesState_149 : decode cX13_goesState 149 = .ok (.bipush 60, 2) := by decide +kernel
theorem dX13_goesState_151 : decode cX13_goesState 151 = .ok (.iload 4, 2) := by decide +kernel
theorem dX13_goesState_153 : decode cX13_goesState 153 = .ok (.imul, 1) := by decide +kernel
theorem dX13_goesState_154 : decode cX13_goesState 154 = .ok (.iload 5, 2) := by decide +kernel
theorem dX13_goesState_156 : decode cX13_goesState 156 = .ok (.iadd, 1) := by decide +kernel
theorem dX13_goesState_157 : decode cX13_goesState 157 = .ok (.aload_n 0, 1) := by decide +kernel
theorem dX13_goesState_158 : decode cX13_goesState 158 = .ok (.getfield 70, 3) := by decide +kernel
theorem dX13_goesState_161 : decode cX13_goesState 161 = .ok (.bipush 60, 2) := by decide +kernel
theorem dX13_goesState_163 : decode cX13_goesState 163 = .ok (.bipush 40, 2) := by decide +kernel
theorem dX13_goesState_165 : decode cX13_goesState 165 = .ok (.iload_n 1, 1) := by decide +kernel
theorem dX13_goesState_166 : decode cX13_goesState 166 = .ok (.imul, 1) := by decide +kernel
theorem dX13_goesState_167 : decode cX13_goesState 167 = .ok (.iload 4, 2) := by decide +kernel
theorem dX13_goesState_169 : decode cX13_goesState 169 = .ok (.iadd, 1) := by decide +kernel
theorem dX13_goesState_170 : decode cX13_goesState 170 = .ok (.imul, 1) := by decide +kernel
theorem dX13_goesState_171 : decode cX13_goesState 171 = .ok (.iload 5, 2) := by decide +kernel
theorem dX13_goesState_173 : decode cX13_goesState 173 = .ok (.iadd, 1) := by decide +kernel
theorem dX13_goesState_174 : decode cX13_goesState 174 = .ok (.iaload, 1) := by decide +kernel
theorem dX13_goesState_175 : decode cX13_goesState 175 = .ok (.iastore, 1) := by decide +kernel
theorem dX13_goesState_176 : decode cX13_goesState 176 = .ok (.iinc 5 1, 3) := by decide +kernel
theorem dX13_goesState_179 : decode cX13_goesState 179 = .ok (.goto (-46), 3) := by decide +kernel
theorem dX13_goesState_182 : decode cX13_goesState 182 = .ok (.iinc 4 1, 3) := by decide +kernel
theorem dX13_goesState_185 : decode cX13_goesState 185 = .ok (.goto (-83), 3) := by decide +kernel
theorem dX13_goesState_188 : decode cX13_goesState 188 = .ok (.aload_n 0, 1) := by decide +kernel
theorem dX13_goesState_189 : decode cX13_goesState 189 = .ok (.iload_n 1, 1) := by decide +kernel
theorem dX13_goesState_190 : decode cX13_goesState 190 = .ok (.putfield 572, 3) := by decide +kernel
theorem dX13_goesState_193 : decode cX13_goesState 193 = .ok (.iload_n 2, 1) := by decide +kernel
theorem dX13_goesState_194 : decode cX13_goesState 194 = .ok (.iconst (-1), 1) := by decide +kernel
theorem dX13_goesState_195 : decode cX13_goesState 195 = .ok (.if_icmp .ne 27, 3) := by decide +kernel
theorem dX13_goesState_198 : decode cX13_goesState 198 = .ok (.aload_n 0, 1) := by decide +kernel
theorem dX13_goesState_199 : decode cX13_goesState 199 = .ok (.aload_n 0, 1) := by decide +kernel
theorem dX13_goesState_200 : decode cX13_goesState 200 = .ok (.getfield 213, 3) := by decide +kernel
theorem dX13_goesState_203 : decode cX13_goesState 203 = .ok (.aload_n 0, 1) := by decide +kernel
theorem dX13_goesState_204 : decode cX13_goesState 204 = .ok (.getfield 13, 3) := by decide +kernel
theorem dX13_goesState_207 : decode cX13_goesState 207 = .ok (.iconst 1, 1) := by decide +kernel
theorem dX13_goesState_208 : decode cX13_goesState 208 = .ok (.isub, 1) := by decide +kernel
theorem dX13_goesState_209 : decode cX13_goesState 209 = .ok (.invokestatic 257, 3) := by decide +kernel
theorem dX13_goesState_212 : decode cX13_goesState 212 = .ok (.aload_n 0, 1) := by decide +kernel
theorem dX13_goesState_213 : decode cX13_goesState 213 = .ok (.getfield 216, 3) := by decide +kernel
theorem dX13_goesState_216 : decode cX13_goesState 216 = .ok (.invokevirtual 510, 3) := by decide +kernel
theorem dX13_goesState_219 : decode cX13_goesState 219 = .ok (.goto 17, 3) := by decide +kernel
theorem dX13_goesState_222 : decode cX13_goesState 222 = .ok (.aload_n 0, 1) := by decide +kernel
theorem dX13_goesState_223 : decode cX13_goesState 223 = .ok (.iload_n 2, 1) := by decide +kernel
theorem dX13_goesState_224 : decode cX13_goesState 224 = .ok (.aload_n 0, 1) := by decide +kernel
theorem dX13_goesState_225 : decode cX13_goesState 225 = .ok (.getfield 13, 3) := by decide +kernel
theorem dX13_goesState_228 : decode cX13_goesState 228 = .ok (.iconst 1, 1) := by decide +kernel
theorem dX13_goesState_229 : decode cX13_goesState 229 = .ok (.isub, 1) := by decide +kernel
theorem dX13_goesState_230 : decode cX13_goesState 230 = .ok (.invokestatic 257, 3) := by decide +kernel
theorem dX13_goesState_233 : decode cX13_goesState 233 = .ok (.invokevirtual 507, 3) := by decide +kernel
theorem dX13_goesState_236 : decode cX13_goesState 236 = .ok (.return_, 1) := by decide +kernel
theorem dX13_latestFrom_0 : decode cX13_latestFrom 0 = .ok (.iconst (-1), 1) := by decide +kernel
theorem dX13_latestFrom_1 : decode cX13_latestFrom 1 = .ok (.istore_n 2, 1) := by decide +kernel
theorem dX13_latestFrom_2 : decode cX13_latestFrom 2 = .ok (.iconst 0, 1) := by decide +kernel
theorem dX13_latestFrom_3 : decode cX13_latestFrom 3 = .ok (.istore_n 3, 1) := by decide +kernel
theorem dX13_latestFrom_4 : decode cX13_latestFrom 4 = .ok (.iload_n 3, 1) := by decide +kernel
theorem dX13_latestFrom_5 : decode cX13_latestFrom 5 = .ok (.aload_n 0, 1) := by decide +kernel
theorem dX13_latestFrom_6 : decode cX13_latestFrom 6 = .ok (.getfield 60, 3) := by decide +kernel
theorem dX13_latestFrom_9 : decode cX13_latestFrom 9 = .ok (.if_icmp .ge 25, 3) := by decide +kernel
theorem dX13_latestFrom_12 : decode cX13_latestFrom 12 = .ok (.aload_n 0, 1) := by decide +kernel
theorem dX13_latestFrom_13 : decode cX13_latestFrom 13 = .ok (.getfield 73, 3) := by decide +kernel
theorem dX13_latestFrom_16 : decode cX13_latestFrom 16 = .ok (.iload_n 3, 1) := by decide +kernel
theorem dX13_latestFrom_17 : decode cX13_latestFrom 17 = .ok (.iaload, 1) := by decide +kernel
theorem dX13_latestFrom_18 : decode cX13_latestFrom 18 = .ok (.iload_n 1, 1) := by decide +kernel
theorem dX13_latestFrom_19 : decode cX13_latestFrom 19 = .ok (.if_icmp .ne 7, 3) := by decide +kernel
theorem dX13_latestFrom_22 : decode cX13_latestFrom 22 = .ok (.iload_n 3, 1) := by decide +kernel
theorem dX13_latestFrom_23 : decode cX13_latestFrom 23 = .ok (.goto 4, 3) := by decide +kernel
theorem dX13_latestFrom_26 : decode cX13_latestFrom 26 = .ok (.iload_n 2, 1) := by decide +kernel
theorem dX13_latestFrom_27 : decode cX13_latestFrom 27 = .ok (.istore_n 2, 1) := by decide +kernel
theorem dX13_latestFrom_28 : decode cX13_latestFrom 28 = .ok (.iinc 3 1, 3) := by decide +kernel
theorem dX13_latestFrom_31 : decode cX13_latestFrom 31 = .ok (.goto (-27), 3) := by decide +kernel
theorem dX13_latestFrom_34 : decode cX13_latestFrom 34 = .ok (.iload_n 2, 1) := by decide +kernel
theorem dX13_latestFrom_35 : decode cX13_latestFrom 35 = .ok (.ireturn, 1) := by decide +kernel
theorem dX13_goesStates_0 : decode cX13_goesStates 0 = .ok (.aload_n 0, 1) := by decide +kernel
theorem dX13_goesStates_1 : decode cX13_goesStates 1 = .ok (.getfield 572, 3) := by decide +kernel
theorem dX13_goesStates_4 : decode cX13_goesStates 4 = .ok (.istore_n 3, 1) := by decide +kernel
theorem dX13_goesStates_5 : decode cX13_goesStates 5 = .ok (.iconst 0, 1) := by decide +kernel
theorem dX13_goesStates_6 : decode cX13_goesStates 6 = .ok (.istore 4, 2) := by decide +kernel
theorem dX13_goesStates_8 : decode cX13_goesStates 8 = .ok (.iload 4, 2) := by decide +kernel
theorem dX13_goesStates_10 : decode cX13_goesStates 10 = .ok (.iload_n 2, 1) := by decide +kernel
theorem dX13_goesStates_11 : decode cX13_goesStates 11 = .ok (.if_icmp .ge 74, 3) := by decide +kernel
theorem dX13_goesStates_14 : decode cX13_goesStates 14 = .ok (.iload_n 3, 1) := by decide +kernel
theorem dX13_goesStates_15 : decode cX13_goesStates 15 = .ok (.iconst (-1), 1) := by decide +kernel
theorem dX13_goesStates_16 : decode cX13_goesStates 16 = .ok (.if_icmp .eq 69, 3) := by decide +kernel
theorem dX13_goesStates_19 : decode cX13_goesStates 19 = .ok (.iload_n 1, 1) := by decide +kernel
theorem dX13_goesStates_20 : decode cX13_goesStates 20 = .ok (.bipush 117, 2) := by decide +kernel
theorem dX13_goesStates_22 : decode cX13_goesStates 22 = .ok (.if_icmp .ne 12, 3) := by decide +kernel
theorem dX13_goesStates_25 : decode cX13_goesStates 25 = .ok (.aload_n 0, 1) := by decide +kernel
theorem dX13_goesStates_26 : decode cX13_goesStates 26 = .ok (.getfield 73, 3) := by decide +kernel
theorem dX13_goesStates_29 : decode cX13_goesStates 29 = .ok (.iload_n 3, 1) := by decide +kernel
theorem dX13_goesStates_30 : decode cX13_goesStates 30 = .ok (.iaload, 1) := by decide +kernel
theorem dX13_goesStates_31 : decode cX13_goesStates 31 = .ok (.goto 47, 3) := by decide +kernel
theorem dX13_goesStates_34 : decode cX13_goesStates 34 = .ok (.iload_n 1, 1) := by decide +kernel
theorem dX13_goesStates_35 : decode cX13_goesStates 35 = .ok (.bipush 18, 2) := by decide +kernel
theorem dX13_goesStates_37 : decode cX13_goesStates 37 = .ok (.if_icmp .ne 11, 3) := by decide +kernel
theorem dX13_goesStates_40 : decode cX13_goesStates 40 = .ok (.aload_n 0, 1) := by decide +kernel
theorem dX13_goesStates_41 : decode cX13_goesStates 41 = .ok (.iload_n 3, 1) := by decide +kernel
theorem dX13_goesStates_42 : decode cX13_goesStates 42 = .ok (.invokevirtual 578, 3) := by decide +kernel
theorem dX13_goesStates_45 : decode cX13_goesStates 45 = .ok (.goto 33, 3) := by decide +kernel
theorem dX13_goesStates_48 : decode cX13_goesStates 48 = .ok (.iload_n 1, 1) := by decide +kernel
theorem dX13_goesStates_49 : decode cX13_goesStates 49 = .ok (.sipush 301, 3) := by decide +kernel
theorem dX13_goesStates_52 : decode cX13_goesStates 52 = .ok (.if_icmp .ne 9, 3) := by decide +kernel
theorem dX13_goesStates_55 : decode cX13_goesStates 55 = .ok (.iload_n 3, 1) := by decide +kernel
theorem dX13_goesStates_56 : decode cX13_goesStates 56 = .ok (.iconst 1, 1) := by decide +kernel
theorem dX13_goesStates_57 : decode cX13_goesStates 57 = .ok (.isub, 1) := by decide +kernel
theorem dX13_goesStates_58 : decode cX13_goesStates 58 = .ok (.goto 20, 3) := by decide +kernel
theorem dX13_goesStates_61 : decode cX13_goesStates 61 = .ok (.iload_n 3, 1) := by decide +kernel
theorem dX13_goesStates_62 : decode cX13_goesStates 62 = .ok (.iconst 1, 1) := by decide +kernel
theorem dX13_goesStates_63 : decode cX13_goesStates 63 = .ok (.iadd, 1) := by decide +kernel
theorem dX13_goesStates_64 : decode cX13_goesStates 64 = .ok (.aload_n 0, 1) := by decide +kernel
theorem dX13_goesStates_65 : decode cX13_goesStates 65 = .ok (.getfield 60, 3) := by decide +kernel
theorem dX13_goesStates_68 : decode cX13_goesStates 68 = .ok (.if_icmp .ge 9, 3) := by decide +kernel
theorem dX13_goesStates_71 : decode cX13_goesStates 71 = .ok (.iload_n 3, 1) := by decide +kernel
theorem dX13_goesStates_72 : decode cX13_goesStates 72 = .ok (.iconst 1, 1) := by decide +kernel
theorem dX13_goesStates_73 : decode cX13_goesStates 73 = .ok (.iadd, 1) := by decide +kernel
theorem dX13_goesStates_74 : decode cX13_goesStates 74 = .ok (.goto 4, 3) := by decide +kernel
theorem dX13_goesStates_77 : decode cX13_goesStates 77 = .ok (.iconst (-1), 1) := by decide +kernel
theorem dX13_goesStates_78 : decode cX13_goesStates 78 = .ok (.istore_n 3, 1) := by decide +kernel
theorem dX13_goesStates_79 : decode cX13_goesStates 79 = .ok (.iinc 4 1, 3) := by decide +kernel
theorem dX13_goesStates_82 : decode cX13_goesStates 82 = .ok (.goto (-74), 3) := by decide +kernel
theorem dX13_goesStates_85 : decode cX13_goesStates 85 = .ok (.iload_n 3, 1) := by decide +kernel
theorem dX13_goesStates_86 : decode cX13_goesStates 86 = .ok (.iconst (-1), 1) := by decide +kernel
theorem dX13_goesStates_87 : decode cX13_goesStates 87 = .ok (.if_icmp .eq 10, 3) := by decide +kernel
theorem dX13_goesStates_90 : decode cX13_goesStates 90 = .ok (.aload_n 0, 1) := by decide +kernel
theorem dX13_goesStates_91 : decode cX13_goesStates 91 = .ok (.invokevirtual 581, 3) := by decide +kernel
theorem dX13_goesStates_94 : decode cX13_goesStates 94 = .ok (.ifCond .eq 5, 3) := by decide +kernel
theorem dX13_goesStates_97 : decode cX13_goesStates 97 = .ok (.iconst 0, 1) := by decide +kernel
theorem dX13_goesStates_98 : decode cX13_goesStates 98 = .ok (.ireturn, 1) := by decide +kernel
theorem dX13_goesStates_99 : decode cX13_goesStates 99 = .ok (.aload_n 0, 1) := by decide +kernel
theorem dX13_goesStates_100 : decode cX13_goesStates 100 = .ok (.iload_n 3, 1) := by decide +kernel
theorem dX13_goesStates_101 : decode cX13_goesStates 101 = .ok (.invokevirtual 584, 3) := by decide +kernel
theorem dX13_goesStates_104 : decode cX13_goesStates 104 = .ok (.iconst 1, 1) := by decide +kernel
theorem dX13_goesStates_105 : decode cX13_goesStates 105 = .ok (.ireturn, 1) := by decide +kernel
theorem dX13_keepsJump_0 : decode cX13_keepsJump 0 = .ok (.aload_n 0, 1) := by decide +kernel
theorem dX13_keepsJump_1 : decode cX13_keepsJump 1 = .ok (.getfield 234, 3) := by decide +kernel
theorem dX13_keepsJump_4 : decode cX13_keepsJump 4 = .ok (.iconst 1, 1) := by decide +kernel
theorem dX13_keepsJump_5 : decode cX13_keepsJump 5 = .ok (.isub, 1) := by decide +kernel
theorem dX13_keepsJump_6 : decode cX13_keepsJump 6 = .ok (.istore_n 3, 1) := by decide +kernel
theorem dX13_keepsJump_7 : decode cX13_keepsJump 7 = .ok (.iload_n 3, 1) := by decide +kernel
theorem dX13_keepsJump_8 : decode cX13_keepsJump 8 = .ok (.ifCond .lt 24, 3) := by decide +kernel
theorem dX13_keepsJump_11 : decode cX13_keepsJump 11 = .ok (.aload_n 0, 1) := by decide +kernel
theorem dX13_keepsJump_12 : decode cX13_keepsJump 12 = .ok (.getfield 39, 3) := by decide +kernel
theorem dX13_keepsJump_15 : decode cX13_keepsJump 15 = .ok (.iload_n 3, 1) := by decide +kernel
theorem dX13_keepsJump_16 : decode cX13_keepsJump 16 = .ok (.iaload, 1) := by decide +kernel
theorem dX13_keepsJump_17 : decode cX13_keepsJump 17 = .ok (.iload_n 1, 1) := by decide +kernel
theorem dX13_keepsJump_18 : decode cX13_keepsJump 18 = .ok (.if_icmp .ne 8, 3) := by decide +kernel
theorem dX13_keepsJump_21 : decode cX13_keepsJump 21 = .ok (.aload_n 0, 1) := by decide +kernel
theorem dX13_keepsJump_22 : decode cX13_keepsJump 22 = .ok (.iload_n 3, 1) := by decide +kernel
theorem dX13_keepsJump_23 : decode cX13_keepsJump 23 = .ok (.invokevirtual 254, 3) := by decide +kernel
theorem dX13_keepsJump_26 : decode cX13_keepsJump 26 = .ok (.iinc 3 (-1), 3) := by decide +kernel
theorem dX13_keepsJump_29 : decode cX13_keepsJump 29 = .ok (.goto (-22), 3) := by decide +kernel
theorem dX13_keepsJump_32 : decode cX13_keepsJump 32 = .ok (.aload_n 0, 1) := by decide +kernel
theorem dX13_keepsJump_33 : decode cX13_keepsJump 33 = .ok (.getfield 234, 3) := by decide +kernel
theorem dX13_keepsJump_36 : decode cX13_keepsJump 36 = .ok (.bipush 10, 2) := by decide +kernel
theorem dX13_keepsJump_38 : decode cX13_keepsJump 38 = .ok (.if_icmp .ne 8, 3) := by decide +kernel
theorem dX13_keepsJump_41 : decode cX13_keepsJump 41 = .ok (.aload_n 0, 1) := by decide +kernel
theorem dX13_keepsJump_42 : decode cX13_keepsJump 42 = .ok (.iconst 0, 1) := by decide +kernel
theorem dX13_keepsJump_43 : decode cX13_keepsJump 43 = .ok (.invokevirtual 254, 3) := by decide +kernel
theorem dX13_keepsJump_46 : decode cX13_keepsJump 46 = .ok (.aload_n 0, 1) := by decide +kernel
theorem dX13_keepsJump_47 : decode cX13_keepsJump 47 = .ok (.getfield 39, 3) := by decide +kernel
theorem dX13_keepsJump_50 : decode cX13_keepsJump 50 = .ok (.aload_n 0, 1) := by decide +kernel
theorem dX13_keepsJump_51 : decode cX13_keepsJump 51 = .ok (.getfield 234, 3) := by decide +kernel
theorem dX13_keepsJump_54 : decode cX13_keepsJump 54 = .ok (.iload_n 1, 1) := by decide +kernel
theorem dX13_keepsJump_55 : decode cX13_keepsJump 55 = .ok (.iastore, 1) := by decide +kernel
theorem dX13_keepsJump_56 : decode cX13_keepsJump 56 = .ok (.aload_n 0, 1) := by decide +kernel
theorem dX13_keepsJump_57 : decode cX13_keepsJump 57 = .ok (.getfield 42, 3) := by decide +kernel
theorem dX13_keepsJump_60 : decode cX13_keepsJump 60 = .ok (.aload_n 0, 1) := by decide +kernel
theorem dX13_keepsJump_61 : decode cX13_keepsJump 61 = .ok (.getfield 234, 3) := by decide +kernel
theorem dX13_keepsJump_64 : decode cX13_keepsJump 64 = .ok (.iload_n 2, 1) := by decide +kernel
theorem dX13_keepsJump_65 : decode cX13_keepsJump 65 = .ok (.iastore, 1) := by decide +kernel
theorem dX13_keepsJump_66 : decode cX13_keepsJump 66 = .ok (.aload_n 0, 1) := by decide +kernel
theorem dX13_keepsJump_67 : decode cX13_keepsJump 67 = .ok (.dup, 1) := by decide +kernel
theorem dX13_keepsJump_68 : decode cX13_keepsJump 68 = .ok (.getfield 234, 3) := by decide +kernel
theorem dX13_keepsJump_71 : decode cX13_keepsJump 71 = .ok (.iconst 1, 1) := by decide +kernel
theorem dX13_keepsJump_72 : decode cX13_keepsJump 72 = .ok (.iadd, 1) := by decide +kernel
theorem dX13_keepsJump_73 : decode cX13_keepsJump 73 = .ok (.putfield 234, 3) := by decide +kernel
theorem dX13_keepsJump_76 : decode cX13_keepsJump 76 = .ok (.aload_n 0, 1) := by decide +kernel
theorem dX13_keepsJump_77 : decode cX13_keepsJump 77 = .ok (.iconst (-1), 1) := by decide +kernel
theorem dX13_keepsJump_78 : decode cX13_keepsJump 78 = .ok (.putfield 45, 3) := by decide +kernel
theorem dX13_keepsJump_81 : decode cX13_keepsJump 81 = .ok (.return_, 1) := by decide +kernel
theorem dX13_goesOlder_0 : decode cX13_goesOlder 0 = .ok (.aload_n 0, 1) := by decide +kernel
theorem dX13_goesOlder_1 : decode cX13_goesOlder 1 = .ok (.getfield 45, 3) := by decide +kernel
theorem dX13_goesOlder_4 : decode cX13_goesOlder 4 = .ok (.iconst (-1), 1) := by decide +kernel
theorem dX13_goesOlder_5 : decode cX13_goesOlder 5 = .ok (.if_icmp .eq 14, 3) := by decide +kernel
theorem dX13_goesOlder_8 : decode cX13_goesOlder 8 = .ok (.aload_n 0, 1) := by decide +kernel
theorem dX13_goesOlder_9 : decode cX13_goesOlder 9 = .ok (.aload_n 0, 1) := by decide +kernel
theorem dX13_goesOlder_10 : decode cX13_goesOlder 10 = .ok (.getfield 45, 3) := by decide +kernel
theorem dX13_goesOlder_13 : decode cX13_goesOlder 13 = .ok (.iload_n 1, 1) := by decide +kernel
theorem dX13_goesOlder_14 : decode cX13_goesOlder 14 = .ok (.isub, 1) := by decide +kernel
theorem dX13_goesOlder_15 : decode cX13_goesOlder 15 = .ok (.invokevirtual 587, 3) := by decide +kernel
theorem dX13_goesOlder_18 : decode cX13_goesOlder 18 = .ok (.ireturn, 1) := by decide +kernel
theorem dX13_goesOlder_19 : decode cX13_goesOlder 19 = .ok (.iconst 0, 1) := by decide +kernel
theorem dX13_goesOlder_20 : decode cX13_goesOlder 20 = .ok (.istore_n 2, 1) := by decide +kernel
theorem dX13_goesOlder_21 : decode cX13_goesOlder 21 = .ok (.iconst 0, 1) := by decide +kernel
theorem dX13_goesOlder_22 : decode cX13_goesOlder 22 = .ok (.istore_n 3, 1) := by decide +kernel
theorem dX13_goesOlder_23 : decode cX13_goesOlder 23 = .ok (.iload_n 3, 1) := by decide +kernel
theorem dX13_goesOlder_24 : decode cX13_goesOlder 24 = .ok (.aload_n 0, 1) := by decide +kernel
theorem dX13_goesOlder_25 : decode cX13_goesOlder 25 = .ok (.getfield 234, 3) := by decide +kernel
theorem dX13_goesOlder_28 : decode cX13_goesOlder 28 = .ok (.if_icmp .ge 30, 3) := by decide +kernel
theorem dX13_goesOlder_31 : decode cX13_goesOlder 31 = .ok (.iload_n 2, 1) := by decide +kernel
theorem dX13_goesOlder_32 : decode cX13_goesOlder 32 = .ok (.aload_n 0, 1) := by decide +kernel
theorem dX13_goesOlder_33 : decode cX13_goesOlder 33 = .ok (.getfield 39, 3) := by decide +kernel
theorem dX13_goesOlder_36 : decode cX13_goesOlder 36 = .ok (.iload_n 3, 1) := by decide +kernel
theorem dX13_goesOlder_37 : decode cX13_goesOlder 37 = .ok (.iaload, 1) := by decide +kernel
theorem dX13_goesOlder_38 : decode cX13_goesOlder 38 = .ok (.aload_n 0, 1) := by decide +kernel
theorem dX13_goesOlder_39 : decode cX13_goesOlder 39 = .ok (.getfield 213, 3) := by decide +kernel
theorem dX13_goesOlder_42 : decode cX13_goesOlder 42 = .ok (.if_icmp .ne 7, 3) := by decide +kernel
theorem dX13_goesOlder_45 : decode cX13_goesOlder 45 = .ok (.iconst 0, 1) := by decide +kernel
theorem dX13_goesOlder_46 : decode cX13_goesOlder 46 = .ok (.goto 4, 3) := by decide +kernel
theorem dX13_goesOlder_49 : decode cX13_goesOlder 49 = .ok (.iconst 1, 1) := by decide +kernel
theorem dX13_goesOlder_50 : decode cX13_goesOlder 50 = .ok (.iadd, 1) := by decide +kernel
theorem dX13_goesOlder_51 : decode cX13_goesOlder 51 = .ok (.istore_n 2, 1) := by decide +kernel
theorem dX13_goesOlder_52 : decode cX13_goesOlder 52 = .ok (.iinc 3 1, 3) := by decide +kernel
theorem dX13_goesOlder_55 : decode cX13_goesOlder 55 = .ok (.goto (-32), 3) := by decide +kernel
theorem dX13_goesOlder_58 : decode cX13_goesOlder 58 = .ok (.iload_n 2, 1) := by decide +kernel
theorem dX13_goesOlder_59 : decode cX13_goesOlder 59 = .ok (.bipush 9, 2) := by decide +kernel
theorem dX13_goesOlder_61 : decode cX13_goesOlder 61 = .ok (.invokestatic 257, 3) := by decide +kernel
theorem dX13_goesOlder_64 : decode cX13_goesOlder 64 = .ok (.iload_n 1, 1) := by decide +kernel
theorem dX13_goesOlder_65 : decode cX13_goesOlder 65 = .ok (.if_icmp .ge 5, 3) := by decide +kernel
theorem dX13_goesOlder_68 : decode cX13_goesOlder 68 = .ok (.iconst 0, 1) := by decide +kernel
theorem dX13_goesOlder_69 : decode cX13_goesOlder 69 = .ok (.ireturn, 1) := by decide +kernel
theorem dX13_goesOlder_70 : decode cX13_goesOlder 70 = .ok (.aload_n 0, 1) := by decide +kernel
theorem dX13_goesOlder_71 : decode cX13_goesOlder 71 = .ok (.aload_n 0, 1) := by decide +kernel
theorem dX13_goesOlder_72 : decode cX13_goesOlder 72 = .ok (.getfield 213, 3) := by decide +kernel
theorem dX13_goesOlder_75 : decode cX13_goesOlder 75 = .ok (.aload_n 0, 1) := by decide +kernel
theorem dX13_goesOlder_76 : decode cX13_goesOlder 76 = .ok (.getfield 216, 3) := by decide +kernel
theorem dX13_goesOlder_79 : decode cX13_goesOlder 79 = .ok (.invokevirtual 590, 3) := by decide +kernel
theorem dX13_goesOlder_82 : decode cX13_goesOlder 82 = .ok (.aload_n 0, 1) := by decide +kernel
theorem dX13_goesOlder_83 : decode cX13_goesOlder 83 = .ok (.aload_n 0, 1) := by decide +kernel
theorem dX13_goesOlder_84 : decode cX13_goesOlder 84 = .ok (.getfield 234, 3) := by decide +kernel
theorem dX13_goesOlder_87 : decode cX13_goesOlder 87 = .ok (.iconst 1, 1) := by decide +kernel
theorem dX13_goesOlder_88 : decode cX13_goesOlder 88 = .ok (.isub, 1) := by decide +kernel
theorem dX13_goesOlder_89 : decode cX13_goesOlder 89 = .ok (.iload_n 1, 1) := by decide +kernel
theorem dX13_goesOlder_90 : decode cX13_goesOlder 90 = .ok (.isub, 1) := by decide +kernel
theorem dX13_goesOlder_91 : decode cX13_goesOlder 91 = .ok (.invokevirtual 587, 3) := by decide +kernel
theorem dX13_goesOlder_94 : decode cX13_goesOlder 94 = .ok (.ireturn, 1) := by decide +kernel
theorem dX13_goesJump_0 : decode cX13_goesJump 0 = .ok (.iload_n 1, 1) := by decide +kernel
theorem dX13_goesJump_1 : decode cX13_goesJump 1 = .ok (.iconst 0, 1) := by decide +kernel
theorem dX13_goesJump_2 : decode cX13_goesJump 2 = .ok (.aload_n 0, 1) := by decide +kernel
theorem dX13_goesJump_3 : decode cX13_goesJump 3 = .ok (.getfield 234, 3) := by decide +kernel
theorem dX13_goesJump_6 : decode cX13_goesJump 6 = .ok (.iconst 1, 1) := by decide +kernel
theorem dX13_goesJump_7 : decode cX13_goesJump 7 = .ok (.isub, 1) := by decide +kernel
theorem dX13_goesJump_8 : decode cX13_goesJump 8 = .ok (.invokestatic 198, 3) := by decide +kernel
theorem dX13_goesJump_11 : decode cX13_goesJump 11 = .ok (.ifCond .ne 5, 3) := by decide +kernel
theorem dX13_goesJump_14 : decode cX13_goesJump 14 = .ok (.iconst 0, 1) := by decide +kernel
theorem dX13_goesJump_15 : decode cX13_goesJump 15 = .ok (.ireturn, 1) := by decide +kernel
theorem dX13_goesJump_16 : decode cX13_goesJump 16 = .ok (.aload_n 0, 1) := by decide +kernel
theorem dX13_goesJump_17 : decode cX13_goesJump 17 = .ok (.iload_n 1, 1) := by decide +kernel
theorem dX13_goesJump_18 : decode cX13_goesJump 18 = .ok (.putfield 45, 3) := by decide +kernel
theorem dX13_goesJump_21 : decode cX13_goesJump 21 = .ok (.aload_n 0, 1) := by decide +kernel
theorem dX13_goesJump_22 : decode cX13_goesJump 22 = .ok (.aload_n 0, 1) := by decide +kernel
theorem dX13_goesJump_23 : decode cX13_goesJump 23 = .ok (.getfield 39, 3) := by decide +kernel
theorem dX13_goesJump_26 : decode cX13_goesJump 26 = .ok (.iload_n 1, 1) := by decide +kernel
theorem dX13_goesJump_27 : decode cX13_goesJump 27 = .ok (.iaload, 1) := by decide +kernel
theorem dX13_goesJump_28 : decode cX13_goesJump 28 = .ok (.aload_n 0, 1) := by decide +kernel
theorem dX13_goesJump_29 : decode cX13_goesJump 29 = .ok (.getfield 42, 3) := by decide +kernel
theorem dX13_goesJump_32 : decode cX13_goesJump 32 = .ok (.iload_n 1, 1) := by decide +kernel
theorem dX13_goesJump_33 : decode cX13_goesJump 33 = .ok (.iaload, 1) := by decide +kernel
theorem dX13_goesJump_34 : decode cX13_goesJump 34 = .ok (.invokevirtual 510, 3) := by decide +kernel
theorem dX13_goesJump_37 : decode cX13_goesJump 37 = .ok (.iconst 1, 1) := by decide +kernel
theorem dX13_goesJump_38 : decode cX13_goesJump 38 = .ok (.ireturn, 1) := by decide +kernel
theorem dX13_innermost_0 : decode cX13_innermost 0 = .ok (.iconst (-1), 1) := by decide +kernel
theorem dX13_innermost_1 : decode cX13_innermost 1 = .ok (.istore_n 3, 1) := by decide +kernel
theorem dX13_innermost_2 : decode cX13_innermost 2 = .ok (.iconst 0, 1) := by decide +kernel
theorem dX13_innermost_3 : decode cX13_innermost 3 = .ok (.istore 4, 2) := by decide +kernel
theorem dX13_innermost_5 : decode cX13_innermost 5 = .ok (.iload 4, 2) := by decide +kernel
theorem dX13_innermost_7 : decode cX13_innermost 7 = .ok (.sipush 1600, 3) := by decide +kernel
theorem dX13_innermost_10 : decode cX13_innermost 10 = .ok (.if_icmp .ge 133, 3) := by decide +kernel
theorem dX13_innermost_13 : decode cX13_innermost 13 = .ok (.aload_n 0, 1) := by decide +kernel
theorem dX13_innermost_14 : decode cX13_innermost 14 = .ok (.getfield 237, 3) := by decide +kernel
theorem dX13_innermost_17 : decode cX13_innermost 17 = .ok (.ifCond .le 126, 3) := by decide +kernel
theorem dX13_innermost_20 : decode cX13_innermost 20 = .ok (.iload_n 2, 1) := by decide +kernel
theorem dX13_innermost_21 : decode cX13_innermost 21 = .ok (.ifCond .eq 21, 3) := by decide +kernel
theorem dX13_innermost_24 : decode cX13_innermost 24 = .ok (.aload_n 0, 1) := by decide +kernel
theorem dX13_innermost_25 : decode cX13_innermost 25 = .ok (.getfield 48, 3) := by decide +kernel
theorem dX13_innermost_28 : decode cX13_innermost 28 = .ok (.iload 4, 2) := by decide +kernel
theorem dX13_innermost_30 : decode cX13_innermost 30 = .ok (.iaload, 1) := by decide +kernel
theorem dX13_innermost_31 : decode cX13_innermost 31 = .ok (.aload_n 0, 1) := by decide +kernel
theorem dX13_innermost_32 : decode cX13_innermost 32 = .ok (.getfield 51, 3) := by decide +kernel
theorem dX13_innermost_35 : decode cX13_innermost 35 = .ok (.iload 4, 2) := by decide +kernel
theorem dX13_innermost_37 : decode cX13_innermost 37 = .ok (.iaload, 1) := by decide +kernel
theorem dX13_innermost_38 : decode cX13_innermost 38 = .ok (.iadd, 1) := by decide +kernel
theorem dX13_innermost_39 : decode cX13_innermost 39 = .ok (.goto 24, 3) := by decide +kernel
theorem dX13_innermost_42 : decode cX13_innermost 42 = .ok (.iload_n 1, 1) := by decide +kernel
theorem dX13_innermost_43 : decode cX13_innermost 43 = .ok (.ifCond .eq 13, 3) := by decide +kernel
theorem dX13_innermost_46 : decode cX13_innermost 46 = .ok (.aload_n 0, 1) := by decide +kernel
theorem dX13_innermost_47 : decode cX13_innermost 47 = .ok (.getfield 51, 3) := by decide +kernel
theorem dX13_innermost_50 : decode cX13_innermost 50 = .ok (.iload 4, 2) := by decide +kernel
theorem dX13_innermost_52 : decode cX13_innermost 52 = .ok (.iaload, 1) := by decide +kernel
theorem dX13_innermost_53 : decode cX13_innermost 53 = .ok (.goto 10, 3) := by decide +kernel
theorem dX13_innermost_56 : decode cX13_innermost 56 = .ok (.aload_n 0, 1) := by decide +kernel
theorem dX13_innermost_57 : decode cX13_innermost 57 = .ok (.getfield 48, 3) := by decide +kernel
theorem dX13_innermost_60 : decode cX13_innermost 60 = .ok (.iload 4, 2) := by decide +kernel
theorem dX13_innermost_62 : decode cX13_innermost 62 = .ok (.iaload, 1) := by decide +kernel
theorem dX13_innermost_63 : decode cX13_innermost 63 = .ok (.istore 5, 2) := by decide +kernel
theorem dX13_innermost_65 : decode cX13_innermost 65 = .ok (.iload 5, 2) := by decide +kernel
theorem dX13_innermost_67 : decode cX13_innermost 67 = .ok (.ifCond .le 27, 3) := by decide +kernel
theorem dX13_innermost_70 : decode cX13_innermost 70 = .ok (.aload_n 0, 1) := by decide +kernel
theorem dX13_innermost_71 : decode cX13_innermost 71 = .ok (.getfield 213, 3) := by decide +kernel
theorem dX13_innermost_74 : decode cX13_innermost 74 = .ok (.iload 4, 2) := by decide +kernel
theorem dX13_innermost_76 : decode cX13_innermost 76 = .ok (.bipush 40, 2) := by decide +kernel
theorem dX13_innermost_78 : decode cX13_innermost 78 = .ok (.idiv, 1) := by decide +kernel
theorem dX13_innermost_79 : decode cX13_innermost 79 = .ok (.iload 4, 2) := by decide +kernel
theorem dX13_innermost_81 : decode cX13_innermost 81 = .ok (.bipush 40, 2) := by decide +kernel
theorem dX13_innermost_83 : decode cX13_innermost 83 = .ok (.irem, 1) := by decide +kernel
theorem dX13_innermost_84 : decode cX13_innermost 84 = .ok (.invokestatic 198, 3) := by decide +kernel
theorem dX13_innermost_87 : decode cX13_innermost 87 = .ok (.ifCond .eq 7, 3) := by decide +kernel
theorem dX13_innermost_90 : decode cX13_innermost 90 = .ok (.iconst 1, 1) := by decide +kernel
theorem dX13_innermost_91 : decode cX13_innermost 91 = .ok (.goto 4, 3) := by decide +kernel
theorem dX13_innermost_94 : decode cX13_innermost 94 = .ok (.iconst 0, 1) := by decide +kernel
theorem dX13_innermost_95 : decode cX13_innermost 95 = .ok (.istore 6, 2) := by decide +kernel
theorem dX13_innermost_97 : decode cX13_innermost 97 = .ok (.iload 6, 2) := by decide +kernel
theorem dX13_innermost_99 : decode cX13_innermost 99 = .ok (.ifCond .eq 36, 3) := by decide +kernel
theorem dX13_innermost_102 : decode cX13_innermost 102 = .ok (.iload_n 3, 1) := by decide +kernel
theorem dX13_innermost_103 : decode cX13_innermost 103 = .ok (.iconst (-1), 1) := by decide +kernel
theorem dX13_innermost_104 : decode cX13_innermost 104 = .ok (.if_icmp .eq 26, 3) := by decide +kernel
theorem dX13_innermost_107 : decode cX13_innermost 107 = .ok (.iload 4, 2) := by decide +kernel
theorem dX13_innermost_109 : decode cX13_innermost 109 = .ok (.bipush 40, 2) := by decide +kernel
theorem dX13_innermost_111 : decode cX13_innermost 111 = .ok (.irem, 1) := by decide +kernel
theorem dX13_innermost_112 : decode cX13_innermost 112 = .ok (.iload 4, 2) := by decide +kernel
theorem dX13_innermost_114 : decode cX13_innermost 114 = .ok (.bipush 40, 2) := by decide +kernel
theorem dX13_innermost_116 : decode cX13_innermost 116 = .ok (.idiv, 1) := by decide +kernel
theorem dX13_innermost_117 : decode cX13_innermost 117 = .ok (.isub, 1) := by decide +kernel
theorem dX13_innermost_118 : decode cX13_innermost 118 = .ok (.iload_n 3, 1) := by decide +kernel
theorem dX13_innermost_119 : decode cX13_innermost 119 = .ok (.bipush 40, 2) := by decide +kernel
theorem dX13_innermost_121 : decode cX13_innermost 121 = .ok (.irem, 1) := by decide +kernel
theorem dX13_innermost_122 : decode cX13_innermost 122 = .ok (.iload_n 3, 1) := by decide +kernel
theorem dX13_innermost_123 : decode cX13_innermost 123 = .ok (.bipush 40, 2) := by decide +kernel
theorem dX13_innermost_125 : decode cX13_innermost 125 = .ok (.idiv, 1) := by decide +kernel
theorem dX13_innermost_126 : decode cX13_innermost 126 = .ok (.isub, 1) := by decide +kernel
theorem dX13_innermost_127 : decode cX13_innermost 127 = .ok (.if_icmp .ge 8, 3) := by decide +kernel
theorem dX13_innermost_130 : decode cX13_innermost 130 = .ok (.iload 4, 2) := by decide +kernel
theorem dX13_innermost_132 : decode cX13_innermost 132 = .ok (.goto 4, 3) := by decide +kernel
theorem dX13_innermost_135 : decode cX13_innermost 135 = .ok (.iload_n 3, 1) := by decide +kernel
theorem dX13_innermost_136 : decode cX13_innermost 136 = .ok (.istore_n 3, 1) := by decide +kernel
theorem dX13_innermost_137 : decode cX13_innermost 137 = .ok (.iinc 4 1, 3) := by decide +kernel
theorem dX13_innermost_140 : decode cX13_innermost 140 = .ok (.goto (-135), 3) := by decide +kernel
theorem dX13_innermost_143 : decode cX13_innermost 143 = .ok (.iload_n 3, 1) := by decide +kernel
theorem dX13_innermost_144 : decode cX13_innermost 144 = .ok (.ireturn, 1) := by decide +kernel
theorem dX13_changesFold_0 : decode cX13_changesFold 0 = .ok (.aload_n 0, 1) := by decide +kernel
theorem dX13_changesFold_1 : decode cX13_changesFold 1 = .ok (.iload_n 1, 1) := by decide +kernel
theorem dX13_changesFold_2 : decode cX13_changesFold 2 = .ok (.sipush 623, 3) := by decide +kernel
theorem dX13_changesFold_5 : decode cX13_changesFold 5 = .ok (.if_icmp .ne 7, 3) := by decide +kernel
theorem dX13_changesFold_8 : decode cX13_changesFold 8 = .ok (.iconst 1, 1) := by decide +kernel
theorem dX13_changesFold_9 : decode cX13_changesFold 9 = .ok (.goto 4, 3) := by decide +kernel
theorem dX13_changesFold_12 : decode cX13_changesFold 12 = .ok (.iconst 0, 1) := by decide +kernel
theorem dX13_changesFold_13 : decode cX13_changesFold 13 = .ok (.iload_n 1, 1) := by decide +kernel
theorem dX13_changesFold_14 : decode cX13_changesFold 14 = .ok (.sipush 612, 3) := by decide +kernel
theorem dX13_changesFold_17 : decode cX13_changesFold 17 = .ok (.if_icmp .ne 7, 3) := by decide +kernel
theorem dX13_changesFold_20 : decode cX13_changesFold 20 = .ok (.iconst 1, 1) := by decide +kernel
theorem dX13_changesFold_21 : decode cX13_changesFold 21 = .ok (.goto 4, 3) := by decide +kernel
theorem dX13_changesFold_24 : decode cX13_changesFold 24 = .ok (.iconst 0, 1) := by decide +kernel
theorem dX13_changesFold_25 : decode cX13_changesFold 25 = .ok (.invokevirtual 593, 3) := by decide +kernel
theorem dX13_changesFold_28 : decode cX13_changesFold 28 = .ok (.istore_n 2, 1) := by decide +kernel
theorem dX13_changesFold_29 : decode cX13_changesFold 29 = .ok (.iload_n 2, 1) := by decide +kernel
theorem dX13_changesFold_30 : decode cX13_changesFold 30 = .ok (.iconst (-1), 1) := by decide +kernel
theorem dX13_changesFold_31 : decode cX13_changesFold 31 = .ok (.if_icmp .ne 5, 3) := by decide +kernel
theorem dX13_changesFold_34 : decode cX13_changesFold 34 = .ok (.iconst 0, 1) := by decide +kernel
theorem dX13_changesFold_35 : decode cX13_changesFold 35 = .ok (.ireturn, 1) := by decide +kernel
theorem dX13_changesFold_36 : decode cX13_changesFold 36 = .ok (.iload_n 1, 1) := by decide +kernel
theorem dX13_changesFold_37 : decode cX13_changesFold 37 = .ok (.sipush 611, 3) := by decide +kernel
theorem dX13_changesFold_40 : decode cX13_changesFold 40 = .ok (.if_icmp .ne 7, 3) := by decide +kernel
theorem dX13_changesFold_43 : decode cX13_changesFold 43 = .ok (.iconst 1, 1) := by decide +kernel
theorem dX13_changesFold_44 : decode cX13_changesFold 44 = .ok (.goto 17, 3) := by decide +kernel
theorem dX13_changesFold_47 : decode cX13_changesFold 47 = .ok (.aload_n 0, 1) := by decide +kernel
theorem dX13_changesFold_48 : decode cX13_changesFold 48 = .ok (.getfield 51, 3) := by decide +kernel
theorem dX13_changesFold_51 : decode cX13_changesFold 51 = .ok (.iload_n 2, 1) := by decide +kernel
theorem dX13_changesFold_52 : decode cX13_changesFold 52 = .ok (.iaload, 1) := by decide +kernel
theorem dX13_changesFold_53 : decode cX13_changesFold 53 = .ok (.ifCond .le 7, 3) := by decide +kernel
theorem dX13_changesFold_56 : decode cX13_changesFold 56 = .ok (.iconst (-1), 1) := by decide +kernel
theorem dX13_changesFold_57 : decode cX13_changesFold 57 = .ok (.goto 4, 3) := by decide +kernel
theorem dX13_changesFold_60 : decode cX13_changesFold 60 = .ok (.iconst 0, 1) := by decide +kernel
theorem dX13_changesFold_61 : decode cX13_changesFold 61 = .ok (.istore_n 3, 1) := by decide +kernel
theorem dX13_changesFold_62 : decode cX13_changesFold 62 = .ok (.aload_n 0, 1) := by decide +kernel
theorem dX13_changesFold_63 : decode cX13_changesFold 63 = .ok (.getfield 51, 3) := by decide +kernel
theorem dX13_changesFold_66 : decode cX13_changesFold 66 = .ok (.iload_n 2, 1) := by decide +kernel
theorem dX13_changesFold_67 : decode cX13_changesFold 67 = .ok (.dup2, 1) := by decide +kernel
theorem dX13_changesFold_68 : decode cX13_changesFold 68 = .ok (.iaload, 1) := by decide +kernel
theorem dX13_changesFold_69 : decode cX13_changesFold 69 = .ok (.iload_n 3, 1) := by decide +kernel
theorem dX13_changesFold_70 : decode cX13_changesFold 70 = .ok (.iadd, 1) := by decide +kernel
theorem dX13_changesFold_71 : decode cX13_changesFold 71 = .ok (.iastore, 1) := by decide +kernel
theorem dX13_changesFold_72 : decode cX13_changesFold 72 = .ok (.aload_n 0, 1) := by decide +kernel
theorem dX13_changesFold_73 : decode cX13_changesFold 73 = .ok (.getfield 48, 3) := by decide +kernel
theorem dX13_changesFold_76 : decode cX13_changesFold 76 = .ok (.iload_n 2, 1) := by decide +kernel
theorem dX13_changesFold_77 : decode cX13_changesFold 77 = .ok (.dup2, 1) := by decide +kernel
theorem dX13_changesFold_78 : decode cX13_changesFold 78 = .ok (.iaload, 1) := by decide +kernel
theorem dX13_changesFold_79 : decode cX13_changesFold 79 = .ok (.iload_n 1, 1) := by decide +kernel
theorem dX13_changesFold_80 : decode cX13_changesFold 80 = .ok (.sipush 612, 3) := by decide +kernel
theorem dX13_changesFold_83 : decode cX13_changesFold 83 = .ok (.if_icmp .ne 9, 3) := by decide +kernel
theorem dX13_changesFold_86 : decode cX13_changesFold 86 = .ok (.iload_n 3, 1) := by decide +kernel
theorem dX13_changesFold_87 : decode cX13_changesFold 87 = .ok (.iconst 1, 1) := by decide +kernel
theorem dX13_changesFold_88 : decode cX13_changesFold 88 = .ok (.iadd, 1) := by decide +kernel
theorem dX13_changesFold_89 : decode cX13_changesFold 89 = .ok (.goto 4, 3) := by decide +kernel
theorem dX13_changesFold_92 : decode cX13_changesFold 92 = .ok (.iload_n 3, 1) := by decide +kernel
theorem dX13_changesFold_93 : decode cX13_changesFold 93 = .ok (.isub, 1) := by decide +kernel
theorem dX13_changesFold_94 : decode cX13_changesFold 94 = .ok (.iastore, 1) := by decide +kernel
theorem dX13_changesFold_95 : decode cX13_changesFold 95 = .ok (.aload_n 0, 1) := by decide +kernel
theorem dX13_changesFold_96 : decode cX13_changesFold 96 = .ok (.dup, 1) := by decide +kernel
theorem dX13_changesFold_97 : decode cX13_changesFold 97 = .ok (.getfield 237, 3) := by decide +kernel
theorem dX13_changesFold_100 : decode cX13_changesFold 100 = .ok (.iload_n 1, 1) := by decide +kernel
theorem dX13_changesFold_101 : decode cX13_changesFold 101 = .ok (.sipush 612, 3) := by decide +kernel
theorem dX13_changesFold_104 : decode cX13_changesFold 104 = .ok (.if_icmp .ne 7, 3) := by decide +kernel
theorem dX13_changesFold_107 : decode cX13_changesFold 107 = .ok (.iconst 1, 1) := by decide +kernel
theorem dX13_changesFold_108 : decode cX13_changesFold 108 = .ok (.goto 4, 3) := by decide +kernel
theorem dX13_changesFold_111 : decode cX13_changesFold 111 = .ok (.iconst 0, 1) := by decide +kernel
theorem dX13_changesFold_112 : decode cX13_changesFold 112 = .ok (.isub, 1) := by decide +kernel
theorem dX13_changesFold_113 : decode cX13_changesFold 113 = .ok (.putfield 237, 3) := by decide +kernel
theorem dX13_changesFold_116 : decode cX13_changesFold 116 = .ok (.iconst 1, 1) := by decide +kernel
theorem dX13_changesFold_117 : decode cX13_changesFold 117 = .ok (.ireturn, 1) := by decide +kernel
theorem dX13_marksPlaces_0 : decode cX13_marksPlaces 0 = .ok (.iconst (-1), 1) := by decide +kernel
theorem dX13_marksPlaces_1 : decode cX13_marksPlaces 1 = .ok (.istore_n 1, 1) := by decide +kernel
theorem dX13_marksPlaces_2 : decode cX13_marksPlaces 2 = .ok (.iconst 0, 1) := by decide +kernel
theorem dX13_marksPlaces_3 : decode cX13_marksPlaces 3 = .ok (.istore_n 2, 1) := by decide +kernel
theorem dX13_marksPlaces_4 : decode cX13_marksPlaces 4 = .ok (.iconst 0, 1) := by decide +kernel
theorem dX13_marksPlaces_5 : decode cX13_marksPlaces 5 = .ok (.istore_n 3, 1) := by decide +kernel
theorem dX13_marksPlaces_6 : decode cX13_marksPlaces 6 = .ok (.iload_n 3, 1) := by decide +kernel
theorem dX13_marksPlaces_7 : decode cX13_marksPlaces 7 = .ok (.bipush 60, 2) := by decide +kernel
theorem dX13_marksPlaces_9 : decode cX13_marksPlaces 9 = .ok (.aload_n 0, 1) := by decide +kernel
theorem dX13_marksPlaces_10 : decode cX13_marksPlaces 10 = .ok (.getfield 13, 3) := by decide +kernel
theorem dX13_marksPlaces_13 : decode cX13_marksPlaces 13 = .ok (.imul, 1) := by decide +kernel
theorem dX13_marksPlaces_14 : decode cX13_marksPlaces 14 = .ok (.if_icmp .ge 81, 3) := by decide +kernel
theorem dX13_marksPlaces_17 : decode cX13_marksPlaces 17 = .ok (.iload_n 3, 1) := by decide +kernel
theorem dX13_marksPlaces_18 : decode cX13_marksPlaces 18 = .ok (.bipush 60, 2) := by decide +kernel
theorem dX13_marksPlaces_20 : decode cX13_marksPlaces 20 = .ok (.idiv, 1) := by decide +kernel
theorem dX13_marksPlaces_21 : decode cX13_marksPlaces 21 = .ok (.istore 4, 2) := by decide +kernel
theorem dX13_marksPlaces_23 : decode cX13_marksPlaces 23 = .ok (.iload_n 3, 1) := by decide +kernel
theorem dX13_marksPlaces_24 : decode cX13_marksPlaces 24 = .ok (.bipush 60, 2) := by decide +kernel
theorem dX13_marksPlaces_26 : decode cX13_marksPlaces 26 = .ok (.irem, 1) := by decide +kernel
theorem dX13_marksPlaces_27 : decode cX13_marksPlaces 27 = .ok (.istore 5, 2) := by decide +kernel
theorem dX13_marksPlaces_29 : decode cX13_marksPlaces 29 = .ok (.aload_n 0, 1) := by decide +kernel
theorem dX13_marksPlaces_30 : decode cX13_marksPlaces 30 = .ok (.iload 4, 2) := by decide +kernel
theorem dX13_marksPlaces_32 : decode cX13_marksPlaces 32 = .ok (.iload 5, 2) := by decide +kernel
theorem dX13_marksPlaces_34 : decode cX13_marksPlaces 34 = .ok (.invokevirtual 327, 3) := by decide +kernel
theorem dX13_marksPlaces_37 : decode cX13_marksPlaces 37 = .ok (.ifCond .eq 52, 3) := by decide +kernel
theorem dX13_marksPlaces_40 : decode cX13_marksPlaces 40 = .ok (.iload 4, 2) := by decide +kernel
theorem dX13_marksPlaces_42 : decode cX13_marksPlaces 42 = .ok (.aload_n 0, 1) := by decide +kernel
theorem dX13_marksPlaces_43 : decode cX13_marksPlaces 43 = .ok (.getfield 213, 3) := by decide +kernel
theorem dX13_marksPlaces_46 : decode cX13_marksPlaces 46 = .ok (.if_icmp .ne 16, 3) := by decide +kernel
theorem dX13_marksPlaces_49 : decode cX13_marksPlaces 49 = .ok (.iload 5, 2) := by decide +kernel
theorem dX13_marksPlaces_51 : decode cX13_marksPlaces 51 = .ok (.aload_n 0, 1) := by decide +kernel
theorem dX13_marksPlaces_52 : decode cX13_marksPlaces 52 = .ok (.getfield 216, 3) := by decide +kernel
theorem dX13_marksPlaces_55 : decode cX13_marksPlaces 55 = .ok (.if_icmp .ne 7, 3) := by decide +kernel
theorem dX13_marksPlaces_58 : decode cX13_marksPlaces 58 = .ok (.iload_n 3, 1) := by decide +kernel
theorem dX13_marksPlaces_59 : decode cX13_marksPlaces 59 = .ok (.goto 4, 3) := by decide +kernel
theorem dX13_marksPlaces_62 : decode cX13_marksPlaces 62 = .ok (.iload_n 1, 1) := by decide +kernel
theorem dX13_marksPlaces_63 : decode cX13_marksPlaces 63 = .ok (.istore_n 1, 1) := by decide +kernel
theorem dX13_marksPlaces_64 : decode cX13_marksPlaces 64 = .ok (.iload_n 2, 1) := by decide +kernel
theorem dX13_marksPlaces_65 : decode cX13_marksPlaces 65 = .ok (.bipush 10, 2) := by decide +kernel
theorem dX13_marksPlaces_67 : decode cX13_marksPlaces 67 = .ok (.if_icmp .ge 22, 3) := by decide +kernel
theorem dX13_marksPlaces_70 : decode cX13_marksPlaces 70 = .ok (.aload_n 0, 1) := by decide +kernel
theorem dX13_marksPlaces_71 : decode cX13_marksPlaces 71 = .ok (.getfield 54, 3) := by decide +kernel
theorem dX13_marksPlaces_74 : decode cX13_marksPlaces 74 = .ok (.iload_n 2, 1) := by decide +kernel
theorem dX13_marksPlaces_75 : decode cX13_marksPlaces 75 = .ok (.iload 4, 2) := by decide +kernel
theorem dX13_marksPlaces_77 : decode cX13_marksPlaces 77 = .ok (.iastore, 1) := by decide +kernel
theorem dX13_marksPlaces_78 : decode cX13_marksPlaces 78 = .ok (.aload_n 0, 1) := by decide +kernel
theorem dX13_marksPlaces_79 : decode cX13_marksPlaces 79 = .ok (.getfield 57, 3) := by decide +kernel
theorem dX13_marksPlaces_82 : decode cX13_marksPlaces 82 = .ok (.iload_n 2, 1) := by decide +kernel
theorem dX13_marksPlaces_83 : decode cX13_marksPlaces 83 = .ok (.iload 5, 2) := by decide +kernel
theorem dX13_marksPlaces_85 : decode cX13_marksPlaces 85 = .ok (.iastore, 1) := by decide +kernel
theorem dX13_marksPlaces_86 : decode cX13_marksPlaces 86 = .ok (.iinc 2 1, 3) := by decide +kernel
theorem dX13_marksPlaces_89 : decode cX13_marksPlaces 89 = .ok (.iinc 3 1, 3) := by decide +kernel
theorem dX13_marksPlaces_92 : decode cX13_marksPlaces 92 = .ok (.goto (-86), 3) := by decide +kernel
theorem dX13_marksPlaces_95 : decode cX13_marksPlaces 95 = .ok (.iload_n 2, 1) := by decide +kernel
theorem dX13_marksPlaces_96 : decode cX13_marksPlaces 96 = .ok (.ifCond .ne 5, 3) := by decide +kernel
theorem dX13_marksPlaces_99 : decode cX13_marksPlaces 99 = .ok (.iconst 0, 1) := by decide +kernel
theorem dX13_marksPlaces_100 : decode cX13_marksPlaces 100 = .ok (.ireturn, 1) := by decide +kernel
theorem dX13_marksPlaces_101 : decode cX13_marksPlaces 101 = .ok (.iload_n 1, 1) := by decide +kernel
theorem dX13_marksPlaces_102 : decode cX13_marksPlaces 102 = .ok (.iconst (-1), 1) := by decide +kernel
theorem dX13_marksPlaces_103 : decode cX13_marksPlaces 103 = .ok (.if_icmp .ne 22, 3) := by decide +kernel
theorem dX13_marksPlaces_106 : decode cX13_marksPlaces 106 = .ok (.bipush 60, 2) := by decide +kernel
theorem dX13_marksPlaces_108 : decode cX13_marksPlaces 108 = .ok (.aload_n 0, 1) := by decide +kernel
theorem dX13_marksPlaces_109 : decode cX13_marksPlaces 109 = .ok (.getfield 54, 3) := by decide +kernel
theorem dX13_marksPlaces_112 : decode cX13_marksPlaces 112 = .ok (.iconst 0, 1) := by decide +kernel
theorem dX13_marksPlaces_113 : decode cX13_marksPlaces 113 = .ok (.iaload, 1) := by decide +kernel
theorem dX13_marksPlaces_114 : decode cX13_marksPlaces 114 = .ok (.imul, 1) := by decide +kernel
theorem dX13_marksPlaces_115 : decode cX13_marksPlaces 115 = .ok (.aload_n 0, 1) := by decide +kernel
theorem dX13_marksPlaces_116 : decode cX13_marksPlaces 116 = .ok (.getfield 57, 3) := by decide +kernel
theorem dX13_marksPlaces_119 : decode cX13_marksPlaces 119 = .ok (.iconst 0, 1) := by decide +kernel
theorem dX13_marksPlaces_120 : decode cX13_marksPlaces 120 = .ok (.iaload, 1) := by decide +kernel
theorem dX13_marksPlaces_121 : decode cX13_marksPlaces 121 = .ok (.iadd, 1) := by decide +kernel
theorem dX13_marksPlaces_122 : decode cX13_marksPlaces 122 = .ok (.goto 4, 3) := by decide +kernel
theorem dX13_marksPlaces_125 : decode cX13_marksPlaces 125 = .ok (.iload_n 1, 1) := by decide +kernel
theorem dX13_marksPlaces_126 : decode cX13_marksPlaces 126 = .ok (.istore_n 1, 1) := by decide +kernel
theorem dX13_marksPlaces_127 : decode cX13_marksPlaces 127 = .ok (.iload_n 1, 1) := by decide +kernel
theorem dX13_marksPlaces_128 : decode cX13_marksPlaces 128 = .ok (.bipush 60, 2) := by decide +kernel
theorem dX13_marksPlaces_130 : decode cX13_marksPlaces 130 = .ok (.aload_n 0, 1) := by decide +kernel
theorem dX13_marksPlaces_131 : decode cX13_marksPlaces 131 = .ok (.getfield 54, 3) := by decide +kernel
theorem dX13_marksPlaces_134 : decode cX13_marksPlaces 134 = .ok (.iload_n 2, 1) := by decide +kernel
theorem dX13_marksPlaces_135 : decode cX13_marksPlaces 135 = .ok (.iconst 1, 1) := by decide +kernel
theorem dX13_marksPlaces_136 : decode cX13_marksPlaces 136 = .ok (.isub, 1) := by decide +kernel
theorem dX13_marksPlaces_137 : decode cX13_marksPlaces 137 = .ok (.iaload, 1) := by decide +kernel
theorem dX13_marksPlaces_138 : decode cX13_marksPlaces 138 = .ok (.imul, 1) := by decide +kernel
theorem dX13_marksPlaces_139 : decode cX13_marksPlaces 139 = .ok (.aload_n 0, 1) := by decide +kernel
theorem dX13_marksPlaces_140 : decode cX13_marksPlaces 140 = .ok (.getfield 57, 3) := by decide +kernel
theorem dX13_marksPlaces_143 : decode cX13_marksPlaces 143 = .ok (.iload_n 2, 1) := by decide +kernel
theorem dX13_marksPlaces_144 : decode cX13_marksPlaces 144 = .ok (.iconst 1, 1) := by decide +kernel
theorem dX13_marksPlaces_145 : decode cX13_marksPlaces 145 = .ok (.isub, 1) := by decide +kernel
theorem dX13_marksPlaces_146 : decode cX13_marksPlaces 146 = .ok (.iaload, 1) := by decide +kernel
theorem dX13_marksPlaces_147 : decode cX13_marksPlaces 147 = .ok (.iadd, 1) := by decide +kernel
theorem dX13_marksPlaces_148 : decode cX13_marksPlaces 148 = .ok (.if_icmp .gt 7, 3) := by decide +kernel
theorem dX13_marksPlaces_151 : decode cX13_marksPlaces 151 = .ok (.iconst 1, 1) := by decide +kernel
theorem dX13_marksPlaces_152 : decode cX13_marksPlaces 152 = .ok (.goto 4, 3) := by decide +kernel
theorem dX13_marksPlaces_155 : decode cX13_marksPlaces 155 = .ok (.iconst 0, 1) := by decide +kernel
theorem dX13_marksPlaces_156 : decode cX13_marksPlaces 156 = .ok (.istore_n 3, 1) := by decide +kernel
theorem dX13_marksPlaces_157 : decode cX13_marksPlaces 157 = .ok (.iload_n 2, 1) := by decide +kernel
theorem dX13_marksPlaces_158 : decode cX13_marksPlaces 158 = .ok (.iload_n 3, 1) := by decide +kernel
theorem dX13_marksPlaces_159 : decode cX13_marksPlaces 159 = .ok (.ifCond .ne 9, 3) := by decide +kernel
theorem dX13_marksPlaces_162 : decode cX13_marksPlaces 162 = .ok (.iload_n 2, 1) := by decide +kernel
theorem dX13_marksPlaces_163 : decode cX13_marksPlaces 163 = .ok (.bipush 10, 2) := by decide +kernel
theorem dX13_marksPlaces_165 : decode cX13_marksPlaces 165 = .ok (.if_icmp .ge 7, 3) := by decide +kernel
theorem dX13_marksPlaces_168 : decode cX13_marksPlaces 168 = .ok (.iconst 0, 1) := by decide +kernel
theorem dX13_marksPlaces_169 : decode cX13_marksPlaces 169 = .ok (.goto 4, 3) := by decide +kernel
theorem dX13_marksPlaces_172 : decode cX13_marksPlaces 172 = .ok (.iconst 1, 1) := by decide +kernel
theorem dX13_marksPlaces_173 : decode cX13_marksPlaces 173 = .ok (.isub, 1) := by decide +kernel
theorem dX13_marksPlaces_174 : decode cX13_marksPlaces 174 = .ok (.istore_n 2, 1) := by decide +kernel
theorem dX13_marksPlaces_175 : decode cX13_marksPlaces 175 = .ok (.aload_n 0, 1) := by decide +kernel
theorem dX13_marksPlaces_176 : decode cX13_marksPlaces 176 = .ok (.iconst 0, 1) := by decide +kernel
theorem dX13_marksPlaces_177 : decode cX13_marksPlaces 177 = .ok (.putfield 244, 3) := by decide +kernel
theorem dX13_marksPlaces_180 : decode cX13_marksPlaces 180 = .ok (.iconst 0, 1) := by decide +kernel
theorem dX13_marksPlaces_181 : decode cX13_marksPlaces 181 = .ok (.istore 4, 2) := by decide +kernel
theorem dX13_marksPlaces_183 : decode cX13_marksPlaces 183 = .ok (.iload 4, 2) := by decide +kernel
theorem dX13_marksPlaces_185 : decode cX13_marksPlaces 185 = .ok (.iload_n 2, 1) := by decide +kernel
theorem dX13_marksPlaces_186 : decode cX13_marksPlaces 186 = .ok (.if_icmp .ge 73, 3) := by decide +kernel
theorem dX13_marksPlaces_189 : decode cX13_marksPlaces 189 = .ok (.bipush 60, 2) := by decide +kernel
theorem dX13_marksPlaces_191 : decode cX13_marksPlaces 191 = .ok (.aload_n 0, 1) := by decide +kernel
theorem dX13_marksPlaces_192 : decode cX13_marksPlaces 192 = .ok (.getfield 54, 3) := by decide +kernel
theorem dX13_marksPlaces_195 : decode cX13_marksPlaces 195 = .ok (.iload 4, 2) := by decide +kernel
theorem dX13_marksPlaces_197 : decode cX13_marksPlaces 197 = .ok (.iaload, 1) := by decide +kernel
theorem dX13_marksPlaces_198 : decode cX13_marksPlaces 198 = .ok (.imul, 1) := by decide +kernel
theorem dX13_marksPlaces_199 : decode cX13_marksPlaces 199 = .ok (.aload_n 0, 1) := by decide +kernel
theorem dX13_marksPlaces_200 : decode cX13_marksPlaces 200 = .ok (.getfield 57, 3) := by decide +kernel
theorem dX13_marksPlaces_203 : decode cX13_marksPlaces 203 = .ok (.iload 4, 2) := by decide +kernel
theorem dX13_marksPlaces_205 : decode cX13_marksPlaces 205 = .ok (.iaload, 1) := by decide +kernel
theorem dX13_marksPlaces_206 : decode cX13_marksPlaces 206 = .ok (.iadd, 1) := by decide +kernel
theorem dX13_marksPlaces_207 : decode cX13_marksPlaces 207 = .ok (.iload_n 1, 1) := by decide +kernel
theorem dX13_marksPlaces_208 : decode cX13_marksPlaces 208 = .ok (.if_icmp .eq 45, 3) := by decide +kernel
theorem dX13_marksPlaces_211 : decode cX13_marksPlaces 211 = .ok (.aload_n 0, 1) := by decide +kernel
theorem dX13_marksPlaces_212 : decode cX13_marksPlaces 212 = .ok (.getfield 54, 3) := by decide +kernel
theorem dX13_marksPlaces_215 : decode cX13_marksPlaces 215 = .ok (.aload_n 0, 1) := by decide +kernel
theorem dX13_marksPlaces_216 : decode cX13_marksPlaces 216 = .ok (.getfield 244, 3) := by decide +kernel
theorem dX13_marksPlaces_219 : decode cX13_marksPlaces 219 = .ok (.aload_n 0, 1) := by decide +kernel
theorem dX13_marksPlaces_220 : decode cX13_marksPlaces 220 = .ok (.getfield 54, 3) := by decide +kernel
theorem dX13_marksPlaces_223 : decode cX13_marksPlaces 223 = .ok (.iload 4, 2) := by decide +kernel
theorem dX13_marksPlaces_225 : decode cX13_marksPlaces 225 = .ok (.iaload, 1) := by decide +kernel
theorem dX13_marksPlaces_226 : decode cX13_marksPlaces 226 = .ok (.iastore, 1) := by decide +kernel
theorem dX13_marksPlaces_227 : decode cX13_marksPlaces 227 = .ok (.aload_n 0, 1) := by decide +kernel
theorem dX13_marksPlaces_228 : decode cX13_marksPlaces 228 = .ok (.getfield 57, 3) := by decide +kernel
theorem dX13_marksPlaces_231 : decode cX13_marksPlaces 231 = .ok (.aload_n 0, 1) := by decide +kernel
theorem dX13_marksPlaces_232 : decode cX13_marksPlaces 232 = .ok (.getfield 244, 3) := by decide +kernel
theorem dX13_marksPlaces_235 : decode cX13_marksPlaces 235 = .ok (.aload_n 0, 1) := by decide +kernel
theorem dX13_marksPlaces_236 : decode cX13_marksPlaces 236 = .ok (.getfield 57, 3) := by decide +kernel
theorem dX13_marksPlaces_239 : decode cX13_marksPlaces 239 = .ok (.iload 4, 2) := by decide +kernel
theorem dX13_marksPlaces_241 : decode cX13_marksPlaces 241 = .ok (.iaload, 1) := by decide +kernel
theorem dX13_marksPlaces_242 : decode cX13_marksPlaces 242 = .ok (.iastore, 1) := by decide +kernel
theorem dX13_marksPlaces_243 : decode cX13_marksPlaces 243 = .ok (.aload_n 0, 1) := by decide +kernel
theorem dX13_marksPlaces_244 : decode cX13_marksPlaces 244 = .ok (.dup, 1) := by decide +kernel
theorem dX13_marksPlaces_245 : decode cX13_marksPlaces 245 = .ok (.getfield 244, 3) := by decide +kernel
theorem dX13_marksPlaces_248 : decode cX13_marksPlaces 248 = .ok (.iconst 1, 1) := by decide +kernel
theorem dX13_marksPlaces_249 : decode cX13_marksPlaces 249 = .ok (.iadd, 1) := by decide +kernel
theorem dX13_marksPlaces_250 : decode cX13_marksPlaces 250 = .ok (.putfield 244, 3) := by decide +kernel
theorem dX13_marksPlaces_253 : decode cX13_marksPlaces 253 = .ok (.iinc 4 1, 3) := by decide +kernel
theorem dX13_marksPlaces_256 : decode cX13_marksPlaces 256 = .ok (.goto (-73), 3) := by decide +kernel
theorem dX13_marksPlaces_259 : decode cX13_marksPlaces 259 = .ok (.iload_n 1, 1) := by decide +kernel
theorem dX13_marksPlaces_260 : decode cX13_marksPlaces 260 = .ok (.bipush 60, 2) := by decide +kernel
theorem dX13_marksPlaces_262 : decode cX13_marksPlaces 262 = .ok (.aload_n 0, 1) := by decide +kernel
theorem dX13_marksPlaces_263 : decode cX13_marksPlaces 263 = .ok (.getfield 213, 3) := by decide +kernel
theorem dX13_marksPlaces_266 : decode cX13_marksPlaces 266 = .ok (.imul, 1) := by decide +kernel
theorem dX13_marksPlaces_267 : decode cX13_marksPlaces 267 = .ok (.aload_n 0, 1) := by decide +kernel
theorem dX13_marksPlaces_268 : decode cX13_marksPlaces 268 = .ok (.getfield 216, 3) := by decide +kernel
theorem dX13_marksPlaces_271 : decode cX13_marksPlaces 271 = .ok (.iadd, 1) := by decide +kernel
theorem dX13_marksPlaces_272 : decode cX13_marksPlaces 272 = .ok (.if_icmp .eq 15, 3) := by decide +kernel
theorem dX13_marksPlaces_275 : decode cX13_marksPlaces 275 = .ok (.aload_n 0, 1) := by decide +kernel
theorem dX13_marksPlaces_276 : decode cX13_marksPlaces 276 = .ok (.iload_n 1, 1) := by decide +kernel
theorem dX13_marksPlaces_277 : decode cX13_marksPlaces 277 = .ok (.bipush 60, 2) := by decide +kernel
theorem dX13_marksPlaces_279 : decode cX13_marksPlaces 279 = .ok (.idiv, 1) := by decide +kernel
theorem dX13_marksPlaces_280 : decode cX13_marksPlaces 280 = .ok (.iload_n 1, 1) := by decide +kernel
theorem dX13_marksPlaces_281 : decode cX13_marksPlaces 281 = .ok (.bipush 60, 2) := by decide +kernel
theorem dX13_marksPlaces_283 : decode cX13_marksPlaces 283 = .ok (.irem, 1) := by decide +kernel
theorem dX13_marksPlaces_284 : decode cX13_marksPlaces 284 = .ok (.invokevirtual 226, 3) := by decide +kernel
theorem dX13_marksPlaces_287 : decode cX13_marksPlaces 287 = .ok (.iconst 1, 1) := by decide +kernel
theorem dX13_marksPlaces_288 : decode cX13_marksPlaces 288 = .ok (.ireturn, 1) := by decide +kernel
theorem dX13_isOperator_0 : decode cX13_isOperator 0 = .ok (.iload_n 0, 1) := by decide +kernel
theorem dX13_isOperator_1 : decode cX13_isOperator 1 = .ok (.bipush 100, 2) := by decide +kernel
theorem dX13_isOperator_3 : decode cX13_isOperator 3 = .ok (.if_icmp .eq 41, 3) := by decide +kernel
theorem dX13_isOperator_6 : decode cX13_isOperator 6 = .ok (.iload_n 0, 1) := by decide +kernel
theorem dX13_isOperator_7 : decode cX13_isOperator 7 = .ok (.bipush 99, 2) := by decide +kernel
theorem dX13_isOperator_9 : decode cX13_isOperator 9 = .ok (.if_icmp .eq 35, 3) := by decide +kernel
theorem dX13_isOperator_12 : decode cX13_isOperator 12 = .ok (.iload_n 0, 1) := by decide +kernel
theorem dX13_isOperator_13 : decode cX13_isOperator 13 = .ok (.bipush 121, 2) := by decide +kernel
theorem dX13_isOperator_15 : decode cX13_isOperator 15 = .ok (.if_icmp .eq 29, 3) := by decide +kernel
theorem dX13_isOperator_18 : decode cX13_isOperator 18 = .ok (.iload_n 0, 1) := by decide +kernel
theorem dX13_isOperator_19 : decode cX13_isOperator 19 = .ok (.bipush 62, 2) := by decide +kernel
theorem dX13_isOperator_21 : decode cX13_isOperator 21 = .ok (.if_icmp .eq 23, 3) := by decide +kernel
theorem dX13_isOperator_24 : decode cX13_isOperator 24 = .ok (.iload_n 0, 1) := by decide +kernel
theorem dX13_isOperator_25 : decode cX13_isOperator 25 = .ok (.bipush 60, 2) := by decide +kernel
theorem dX13_isOperator_27 : decode cX13_isOperator 27 = .ok (.if_icmp .eq 17, 3) := by decide +kernel
theorem dX13_isOperator_30 : decode cX13_isOperator 30 = .ok (.iload_n 0, 1) := by decide +kernel
theorem dX13_isOperator_31 : decode cX13_isOperator 31 = .ok (.sipush 382, 3) := by decide +kernel
theorem dX13_isOperator_34 : decode cX13_isOperator 34 = .ok (.if_icmp .eq 10, 3) := by decide +kernel
theorem dX13_isOperator_37 : decode cX13_isOperator 37 = .ok (.iload_n 0, 1) := by decide +kernel
theorem dX13_isOperator_38 : decode cX13_isOperator 38 = .ok (.sipush 614, 3) := by decide +kernel
theorem dX13_isOperator_41 : decode cX13_isOperator 41 = .ok (.if_icmp .ne 7, 3) := by decide +kernel
theorem dX13_isOperator_44 : decode cX13_isOperator 44 = .ok (.iconst 1, 1) := by decide +kernel
theorem dX13_isOperator_45 : decode cX13_isOperator 45 = .ok (.goto 4, 3) := by decide +kernel
theorem dX13_isOperator_48 : decode cX13_isOperator 48 = .ok (.iconst 0, 1) := by decide +kernel
theorem dX13_isOperator_49 : decode cX13_isOperator 49 = .ok (.ireturn, 1) := by decide +kernel
theorem dX13_isObject_0 : decode cX13_isObject 0 = .ok (.iload_n 0, 1) := by decide +kernel
theorem dX13_isObject_1 : decode cX13_isObject 1 = .ok (.bipush 119, 2) := by decide +kernel
theorem dX13_isObject_3 : decode cX13_isObject 3 = .ok (.if_icmp .eq 33, 3) := by decide +kernel
theorem dX13_isObject_6 : decode cX13_isObject 6 = .ok (.iload_n 0, 1) := by decide +kernel
theorem dX13_isObject_7 : decode cX13_isObject 7 = .ok (.bipush 34, 2) := by decide +kernel
theorem dX13_isObject_9 : decode cX13_isObject 9 = .ok (.if_icmp .eq 27, 3) := by decide +kernel
theorem dX13_isObject_12 : decode cX13_isObject 12 = .ok (.iload_n 0, 1) := by decide +kernel
theorem dX13_isObject_13 : decode cX13_isObject 13 = .ok (.bipush 40, 2) := by decide +kernel
theorem dX13_isObject_15 : decode cX13_isObject 15 = .ok (.if_icmp .eq 21, 3) := by decide +kernel
theorem dX13_isObject_18 : decode cX13_isObject 18 = .ok (.iload_n 0, 1) := by decide +kernel
theorem dX13_isObject_19 : decode cX13_isObject 19 = .ok (.bipush 91, 2) := by decide +kernel
theorem dX13_isObject_21 : decode cX13_isObject 21 = .ok (.if_icmp .eq 15, 3) := by decide +kernel
theorem dX13_isObject_24 : decode cX13_isObject 24 = .ok (.iload_n 0, 1) := by decide +kernel
theorem dX13_isObject_25 : decode cX13_isObject 25 = .ok (.bipush 123, 2) := by decide +kernel
theorem dX13_isObject_27 : decode cX13_isObject 27 = .ok (.if_icmp .eq 9, 3) := by decide +kernel
theorem dX13_isObject_30 : decode cX13_isObject 30 = .ok (.iload_n 0, 1) := by decide +kernel
theorem dX13_isObject_31 : decode cX13_isObject 31 = .ok (.bipush 112, 2) := by decide +kernel
theorem dX13_isObject_33 : decode cX13_isObject 33 = .ok (.if_icmp .ne 7, 3) := by decide +kernel
theorem dX13_isObject_36 : decode cX13_isObject 36 = .ok (.iconst 1, 1) := by decide +kernel
theorem dX13_isObject_37 : decode cX13_isObject 37 = .ok (.goto 4, 3) := by decide +kernel
theorem dX13_isObject_40 : decode cX13_isObject 40 = .ok (.iconst 0, 1) := by decide +kernel
theorem dX13_isObject_41 : decode cX13_isObject 41 = .ok (.ireturn, 1) := by decide +kernel
theorem dX13_isMotion_0 : decode cX13_isMotion 0 = .ok (.iload_n 0, 1) := by decide +kernel
theorem dX13_isMotion_1 : decode cX13_isMotion 1 = .ok (.bipush 104, 2) := by decide +kernel
theorem dX13_isMotion_3 : decode cX13_isMotion 3 = .ok (.if_icmp .eq 119, 3) := by decide +kernel
theorem dX13_isMotion_6 : decode cX13_isMotion 6 = .ok (.iload_n 0, 1) := by decide +kernel
theorem dX13_isMotion_7 : decode cX13_isMotion 7 = .ok (.bipush 108, 2) := by decide +kernel
theorem dX13_isMotion_9 : decode cX13_isMotion 9 = .ok (.if_icmp .eq 113, 3) := by decide +kernel
theorem dX13_isMotion_12 : decode cX13_isMotion 12 = .ok (.iload_n 0, 1) := by decide +kernel
theorem dX13_isMotion_13 : decode cX13_isMotion 13 = .ok (.bipush 106, 2) := by decide +kernel
theorem dX13_isMotion_15 : decode cX13_isMotion 15 = .ok (.if_icmp .eq 107, 3) := by decide +kernel
theorem dX13_isMotion_18 : decode cX13_isMotion 18 = .ok (.iload_n 0, 1) := by decide +kernel
theorem dX13_isMotion_19 : decode cX13_isMotion 19 = .ok (.bipush 107, 2) := by decide +kernel
theorem dX13_isMotion_21 : decode cX13_isMotion 21 = .ok (.if_icmp .eq 101, 3) := by decide +kernel
theorem dX13_isMotion_24 : decode cX13_isMotion 24 = .ok (.iload_n 0, 1) := by decide +kernel
theorem dX13_isMotion_25 : decode cX13_isMotion 25 = .ok (.bipush 48, 2) := by decide +kernel
theorem dX13_isMotion_27 : decode cX13_isMotion 27 = .ok (.if_icmp .eq 95, 3) := by decide +kernel
theorem dX13_isMotion_30 : decode cX13_isMotion 30 = .ok (.iload_n 0, 1) := by decide +kernel
theorem dX13_isMotion_31 : decode cX13_isMotion 31 = .ok (.bipush 94, 2) := by decide +kernel
theorem dX13_isMotion_33 : decode cX13_isMotion 33 = .ok (.if_icmp .eq 89, 3) := by decide +kernel
theorem dX13_isMotion_36 : decode cX13_isMotion 36 = .ok (.iload_n 0, 1) := by decide +kernel
theorem dX13_isMotion_37 : decode cX13_isMotion 37 = .ok (.bipush 36, 2) := by decide +kernel
theorem dX13_isMotion_39 : decode cX13_isMotion 39 = .ok (.if_icmp .eq 83, 3) := by decide +kernel
theorem dX13_isMotion_42 : decode cX13_isMotion 42 = .ok (.iload_n 0, 1) := by decide +kernel
theorem dX13_isMotion_43 : decode cX13_isMotion 43 = .ok (.bipush 119, 2) := by decide +kernel
theorem dX13_isMotion_45 : decode cX13_isMotion 45 = .ok (.if_icmp .eq 77, 3) := by decide +kernel
theorem dX13_isMotion_48 : decode cX13_isMotion 48 = .ok (.iload_n 0, 1) := by decide +kernel
theorem dX13_isMotion_49 : decode cX13_isMotion 49 = .ok (.bipush 98, 2) := by decide +kernel
theorem dX13_isMotion_51 : decode cX13_isMotion 51 = .ok (.if_icmp .eq 71, 3) := by decide +kernel
theorem dX13_isMotion_54 : decode cX13_isMotion 54 = .ok (.iload_n 0, 1) := by decide +kernel
theorem dX13_isMotion_55 : decode cX13_isMotion 55 = .ok (.bipush 101, 2) := by decide +kernel
theorem dX13_isMotion_57 : decode cX13_isMotion 57 = .ok (.if_icmp .eq 65, 3) := by decide +kernel
theorem dX13_isMotion_60 : decode cX13_isMotion 60 = .ok (.iload_n 0, 1) := by decide +kernel
theorem dX13_isMotion_61 : decode cX13_isMotion 61 = .ok (.bipush 59, 2) := by decide +kernel
theorem dX13_isMotion_63 : decode cX13_isMotion 63 = .ok (.if_icmp .eq 59, 3) := by decide +kernel
theorem dX13_isMotion_66 : decode cX13_isMotion 66 = .ok (.iload_n 0, 1) := by decide +kernel
theorem dX13_isMotion_67 : decode cX13_isMotion 67 = .ok (.bipush 44, 2) := by decide +kernel
theorem dX13_isMotion_69 : decode cX13_isMotion 69 = .ok (.if_icmp .eq 53, 3) := by decide +kernel
theorem dX13_isMotion_72 : decode cX13_isMotion 72 = .ok (.iload_n 0, 1) := by decide +kernel
theorem dX13_isMotion_73 : decode cX13_isMotion 73 = .ok (.bipush 71, 2) := by decide +kernel
theorem dX13_isMotion_75 : decode cX13_isMotion 75 = .ok (.if_icmp .eq 47, 3) := by decide +kernel
theorem dX13_isMotion_78 : decode cX13_isMotion 78 = .ok (.iload_n 0, 1) := by decide +kernel
theorem dX13_isMotion_79 : decode cX13_isMotion 79 = .ok (.sipush 359, 3) := by decide +kernel
theorem dX13_isMotion_82 : decode cX13_isMotion 82 = .ok (.if_icmp .eq 40, 3) := by decide +kernel
theorem dX13_isMotion_85 : decode cX13_isMotion 85 = .ok (.iload_n 0, 1) := by decide +kernel
theorem dX13_isMotion_86 : decode cX13_isMotion 86 = .ok (.bipush 125, 2) := by decide +kernel
theorem dX13_isMotion_88 : decode cX13_isMotion 88 = .ok (.if_icmp .eq 34, 3) := by decide +kernel
theorem dX13_isMotion_91 : decode cX13_isMotion 91 = .ok (.iload_n 0, 1) := by decide +kernel
theorem dX13_isMotion_92 : decode cX13_isMotion 92 = .ok (.bipush 123, 2) := by decide +kernel
theorem dX13_isMotion_94 : decode cX13_isMotion 94 = .ok (.if_icmp .eq 28, 3) := by decide +kernel
theorem dX13_isMotion_97 : decode cX13_isMotion 97 = .ok (.iload_n 0, 1) := by decide +kernel
theorem dX13_isMotion_98 : decode cX13_isMotion 98 = .ok (.bipush 37, 2) := by decide +kernel
theorem dX13_isMotion_100 : decode cX13_isMotion 100 = .ok (.if_icmp .eq 22, 3) := by decide +kernel
theorem dX13_isMotion_103 : decode cX13_isMotion 103 = .ok (.iload_n 0, 1) := by decide +kernel
theorem dX13_isMotion_104 : decode cX13_isMotion 104 = .ok (.bipush 110, 2) := by decide +kernel
theorem dX13_isMotion_106 : decode cX13_isMotion 106 = .ok (.if_icmp .eq 16, 3) := by decide +kernel
theorem dX13_isMotion_109 : decode cX13_isMotion 109 = .ok (.iload_n 0, 1) := by decide +kernel
theorem dX13_isMotion_110 : decode cX13_isMotion 110 = .ok (.bipush 78, 2) := by decide +kernel
theorem dX13_isMotion_112 : decode cX13_isMotion 112 = .ok (.if_icmp .eq 10, 3) := by decide +kernel
theorem dX13_isMotion_115 : decode cX13_isMotion 115 = .ok (.iload_n 0, 1) := by decide +kernel
theorem dX13_isMotion_116 : decode cX13_isMotion 116 = .ok (.invokestatic 597, 3) := by decide +kernel
theorem dX13_isMotion_119 : decode cX13_isMotion 119 = .ok (.ifCond .eq 7, 3) := by decide +kernel
theorem dX13_isMotion_122 : decode cX13_isMotion 122 = .ok (.iconst 1, 1) := by decide +kernel
theorem dX13_isMotion_123 : decode cX13_isMotion 123 = .ok (.goto 4, 3) := by decide +kernel
theorem dX13_isMotion_126 : decode cX13_isMotion 126 = .ok (.iconst 0, 1) := by decide +kernel
theorem dX13_isMotion_127 : decode cX13_isMotion 127 = .ok (.ireturn, 1) := by decide +kernel
theorem dX13_isLong_0 : decode cX13_isLong 0 = .ok (.iload_n 0, 1) := by decide +kernel
theorem dX13_isLong_1 : decode cX13_isLong 1 = .ok (.bipush 102, 2) := by decide +kernel
theorem dX13_isLong_3 : decode cX13_isLong 3 = .ok (.if_icmp .eq 39, 3) := by decide +kernel
theorem dX13_isLong_6 : decode cX13_isLong 6 = .ok (.iload_n 0, 1) := by decide +kernel
theorem dX13_isLong_7 : decode cX13_isLong 7 = .ok (.bipush 116, 2) := by decide +kernel
theorem dX13_isLong_9 : decode cX13_isLong 9 = .ok (.if_icmp .eq 33, 3) := by decide +kernel
theorem dX13_isLong_12 : decode cX13_isLong 12 = .ok (.iload_n 0, 1) := by decide +kernel
theorem dX13_isLong_13 : decode cX13_isLong 13 = .ok (.bipush 70, 2) := by decide +kernel
theorem dX13_isLong_15 : decode cX13_isLong 15 = .ok (.if_icmp .eq 27, 3) := by decide +kernel
theorem dX13_isLong_18 : decode cX13_isLong 18 = .ok (.iload_n 0, 1) := by decide +kernel
theorem dX13_isLong_19 : decode cX13_isLong 19 = .ok (.bipush 84, 2) := by decide +kernel
theorem dX13_isLong_21 : decode cX13_isLong 21 = .ok (.if_icmp .eq 21, 3) := by decide +kernel
theorem dX13_isLong_24 : decode cX13_isLong 24 = .ok (.iload_n 0, 1) := by decide +kernel
theorem dX13_isLong_25 : decode cX13_isLong 25 = .ok (.bipush 39, 2) := by decide +kernel
theorem dX13_isLong_27 : decode cX13_isLong 27 = .ok (.if_icmp .eq 15, 3) := by decide +kernel
theorem dX13_isLong_30 : decode cX13_isLong 30 = .ok (.iload_n 0, 1) := by decide +kernel
theorem dX13_isLong_31 : decode cX13_isLong 31 = .ok (.bipush 96, 2) := by decide +kernel
theorem dX13_isLong_33 : decode cX13_isLong 33 = .ok (.if_icmp .eq 9, 3) := by decide +kernel
theorem dX13_isLong_36 : decode cX13_isLong 36 = .ok (.iload_n 0, 1) := by decide +kernel
theorem dX13_isLong_37 : decode cX13_isLong 37 = .ok (.bipush 47, 2) := by decide +kernel
theorem dX13_isLong_39 : decode cX13_isLong 39 = .ok (.if_icmp .ne 7, 3) := by decide +kernel
theorem dX13_isLong_42 : decode cX13_isLong 42 = .ok (.iconst 1, 1) := by decide +kernel
theorem dX13_isLong_43 : decode cX13_isLong 43 = .ok (.goto 4, 3) := by decide +kernel
theorem dX13_isLong_46 : decode cX13_isLong 46 = .ok (.iconst 0, 1) := by decide +kernel
theorem dX13_isLong_47 : decode cX13_isLong 47 = .ok (.ireturn, 1) := by decide +kernel
theorem dX13_isPlain_0 : decode cX13_isPlain 0 = .ok (.iload_n 0, 1) := by decide +kernel
theorem dX13_isPlain_1 : decode cX13_isPlain 1 = .ok (.bipush 120, 2) := by decide +kernel
theorem dX13_isPlain_3 : decode cX13_isPlain 3 = .ok (.if_icmp .eq 195, 3) := by decide +kernel
theorem dX13_isPlain_6 : decode cX13_isPlain 6 = .ok (.iload_n 0, 1) := by decide +kernel
theorem dX13_isPlain_7 : decode cX13_isPlain 7 = .ok (.bipush 88, 2) := by decide +kernel
theorem dX13_isPlain_9 : decode cX13_isPlain 9 = .ok (.if_icmp .eq 189, 3) := by decide +kernel
theorem dX13_isPlain_12 : decode cX13_isPlain 12 = .ok (.iload_n 0, 1) := by decide +kernel
theorem dX13_isPlain_13 : decode cX13_isPlain 13 = .ok (.bipush 68, 2) := by decide +kernel
theorem dX13_isPlain_15 : decode cX13_isPlain 15 = .ok (.if_icmp .eq 183, 3) := by decide +kernel
theorem dX13_isPlain_18 : decode cX13_isPlain 18 = .ok (.iload_n 0, 1) := by decide +kernel
theorem dX13_isPlain_19 : decode cX13_isPlain 19 = .ok (.bipush 67, 2) := by decide +kernel
theorem dX13_isPlain_21 : decode cX13_isPlain 21 = .ok (.if_icmp .eq 177, 3) := by decide +kernel
theorem dX13_isPlain_24 : decode cX13_isPlain 24 = .ok (.iload_n 0, 1) := by decide +kernel
theorem dX13_isPlain_25 : decode cX13_isPlain 25 = .ok (.bipush 115, 2) := by decide +kernel
theorem dX13_isPlain_27 : decode cX13_isPlain 27 = .ok (.if_icmp .eq 171, 3) := by decide +kernel
theorem dX13_isPlain_30 : decode cX13_isPlain 30 = .ok (.iload_n 0, 1) := by decide +kernel
theorem dX13_isPlain_31 : decode cX13_isPlain 31 = .ok (.bipush 83, 2) := by decide +kernel
theorem dX13_isPlain_33 : decode cX13_isPlain 33 = .ok (.if_icmp .eq 165, 3) := by decide +kernel
theorem dX13_isPlain_36 : decode cX13_isPlain 36 = .ok (.iload_n 0, 1) := by decide +kernel
theorem dX13_isPlain_37 : decode cX13_isPlain 37 = .ok (.bipush 89, 2) := by decide +kernel
theorem dX13_isPlain_39 : decode cX13_isPlain 39 = .ok (.if_icmp .eq 159, 3) := by decide +kernel
theorem dX13_isPlain_42 : decode cX13_isPlain 42 = .ok (.iload_n 0, 1) := by decide +kernel
theorem dX13_isPlain_43 : decode cX13_isPlain 43 = .ok (.bipush 74, 2) := by decide +kernel
theorem dX13_isPlain_45 : decode cX13_isPlain 45 = .ok (.if_icmp .eq 153, 3) := by decide +kernel
theorem dX13_isPlain_48 : decode cX13_isPlain 48 = .ok (.iload_n 0, 1) := by decide +kernel
theorem dX13_isPlain_49 : decode cX13_isPlain 49 = .ok (.bipush 112, 2) := by decide +kernel
theorem dX13_isPlain_51 : decode cX13_isPlain 51 = .ok (.if_icmp .eq 147, 3) := by decide +kernel
theorem dX13_isPlain_54 : decode cX13_isPlain 54 = .ok (.iload_n 0, 1) := by decide +kernel
theorem dX13_isPlain_55 : decode cX13_isPlain 55 = .ok (.bipush 80, 2) := by decide +kernel
theorem dX13_isPlain_57 : decode cX13_isPlain 57 = .ok (.if_icmp .eq 141, 3) := by decide +kernel
theorem dX13_isPlain_60 : decode cX13_isPlain 60 = .ok (.iload_n 0, 1) := by decide +kernel
theorem dX13_isPlain_61 : decode cX13_isPlain 61 = .ok (.bipush 126, 2) := by decide +kernel
theorem dX13_isPlain_63 : decode cX13_isPlain 63 = .ok (.if_icmp .eq 135, 3) := by decide +kernel
theorem dX13_isPlain_66 : decode cX13_isPlain 66 = .ok (.iload_n 0, 1) := by decide +kernel
theorem dX13_isPlain_67 : decode cX13_isPlain 67 = .ok (.bipush 105, 2) := by decide +kernel
theorem dX13_isPlain_69 : decode cX13_isPlain 69 = .ok (.if_icmp .eq 129, 3) := by decide +kernel
theorem dX13_isPlain_72 : decode cX13_isPlain 72 = .ok (.iload_n 0, 1) := by decide +kernel
theorem dX13_isPlain_73 : decode cX13_isPlain 73 = .ok (.bipush 97, 2) := by decide +kernel
theorem dX13_isPlain_75 : decode cX13_isPlain 75 = .ok (.if_icmp .eq 123, 3) := by decide +kernel
theorem dX13_isPlain_78 : decode cX13_isPlain 78 = .ok (.iload_n 0, 1) := by decide +kernel
theorem dX13_isPlain_79 : decode cX13_isPlain 79 = .ok (.bipush 73, 2) := by decide +kernel
theorem dX13_isPlain_81 : decode cX13_isPlain 81 = .ok (.if_icmp .eq 117, 3) := by decide +kernel
theorem dX13_isPlain_84 : decode cX13_isPlain 84 = .ok (.iload_n 0, 1) := by decide +kernel
theorem dX13_isPlain_85 : decode cX13_isPlain 85 = .ok (.bipush 65, 2) := by decide +kernel
theorem dX13_isPlain_87 : decode cX13_isPlain 87 = .ok (.if_icmp .eq 111, 3) := by decide +kernel
theorem dX13_isPlain_90 : decode cX13_isPlain 90 = .ok (.iload_n 0, 1) := by decide +kernel
theorem dX13_isPlain_91 : decode cX13_isPlain 91 = .ok (.bipush 111, 2) := by decide +kernel
theorem dX13_isPlain_93 : decode cX13_isPlain 93 = .ok (.if_icmp .eq 105, 3) := by decide +kernel
theorem dX13_isPlain_96 : decode cX13_isPlain 96 = .ok (.iload_n 0, 1) := by decide +kernel
theorem dX13_isPlain_97 : decode cX13_isPlain 97 = .ok (.bipush 79, 2) := by decide +kernel
theorem dX13_isPlain_99 : decode cX13_isPlain 99 = .ok (.if_icmp .eq 99, 3) := by decide +kernel
theorem dX13_isPlain_102 : decode cX13_isPlain 102 = .ok (.iload_n 0, 1) := by decide +kernel
theorem dX13_isPlain_103 : decode cX13_isPlain 103 = .ok (.bipush 118, 2) := by decide +kernel
theorem dX13_isPlain_105 : decode cX13_isPlain 105 = .ok (.if_icmp .eq 93, 3) := by decide +kernel
theorem dX13_isPlain_108 : decode cX13_isPlain 108 = .ok (.iload_n 0, 1) := by decide +kernel
theorem dX13_isPlain_109 : decode cX13_isPlain 109 = .ok (.bipush 86, 2) := by decide +kernel
theorem dX13_isPlain_111 : decode cX13_isPlain 111 = .ok (.if_icmp .eq 87, 3) := by decide +kernel
theorem dX13_isPlain_114 : decode cX13_isPlain 114 = .ok (.iload_n 0, 1) := by decide +kernel
theorem dX13_isPlain_115 : decode cX13_isPlain 115 = .ok (.bipush 22, 2) := by decide +kernel
theorem dX13_isPlain_117 : decode cX13_isPlain 117 = .ok (.if_icmp .eq 81, 3) := by decide +kernel
theorem dX13_isPlain_120 : decode cX13_isPlain 120 = .ok (.iload_n 0, 1) := by decide +kernel
theorem dX13_isPlain_121 : decode cX13_isPlain 121 = .ok (.bipush 58, 2) := by decide +kernel
theorem dX13_isPlain_123 : decode cX13_isPlain 123 = .ok (.if_icmp .eq 75, 3) := by decide +kernel
theorem dX13_isPlain_126 : decode cX13_isPlain 126 = .ok (.iload_n 0, 1) := by decide +kernel
theorem dX13_isPlain_127 : decode cX13_isPlain 127 = .ok (.bipush 117, 2) := by decide +kernel
theorem dX13_isPlain_129 : decode cX13_isPlain 129 = .ok (.if_icmp .eq 69, 3) := by decide +kernel
theorem dX13_isPlain_132 : decode cX13_isPlain 132 = .ok (.iload_n 0, 1) := by decide +kernel
theorem dX13_isPlain_133 : decode cX13_isPlain 133 = .ok (.bipush 18, 2) := by decide +kernel
theorem dX13_isPlain_135 : decode cX13_isPlain 135 = .ok (.if_icmp .eq 63, 3) := by decide +kernel
theorem dX13_isPlain_138 : decode cX13_isPlain 138 = .ok (.iload_n 0, 1) := by decide +kernel
theorem dX13_isPlain_139 : decode cX13_isPlain 139 = .ok (.bipush 46, 2) := by decide +kernel
theorem dX13_isPlain_141 : decode cX13_isPlain 141 = .ok (.if_icmp .eq 57, 3) := by decide +kernel
theorem dX13_isPlain_144 : decode cX13_isPlain 144 = .ok (.iload_n 0, 1) := by decide +kernel
theorem dX13_isPlain_145 : decode cX13_isPlain 145 = .ok (.bipush 15, 2) := by decide +kernel
theorem dX13_isPlain_147 : decode cX13_isPlain 147 = .ok (.if_icmp .eq 51, 3) := by decide +kernel
theorem dX13_isPlain_150 : decode cX13_isPlain 150 = .ok (.iload_n 0, 1) := by decide +kernel
theorem dX13_isPlain_151 : decode cX13_isPlain 151 = .ok (.bipush 9, 2) := by decide +kernel
theorem dX13_isPlain_153 : decode cX13_isPlain 153 = .ok (.if_icmp .eq 45, 3) := by decide +kernel
theorem dX13_isPlain_156 : decode cX13_isPlain 156 = .ok (.iload_n 0, 1) := by decide +kernel
theorem dX13_isPlain_157 : decode cX13_isPlain 157 = .ok (.sipush 301, 3) := by decide +kernel
theorem dX13_isPlain_160 : decode cX13_isPlain 160 = .ok (.if_icmp .eq 38, 3) := by decide +kernel
theorem dX13_isPlain_163 : decode cX13_isPlain 163 = .ok (.iload_n 0, 1) := by decide +kernel
theorem dX13_isPlain_164 : decode cX13_isPlain 164 = .ok (.sipush 299, 3) := by decide +kernel
theorem dX13_isPlain_167 : decode cX13_isPlain 167 = .ok (.if_icmp .eq 31, 3) := by decide +kernel
theorem dX13_isPlain_170 : decode cX13_isPlain 170 = .ok (.iload_n 0, 1) := by decide +kernel
theorem dX13_isPlain_171 : decode cX13_isPlain 171 = .ok (.sipush 365, 3) := by decide +kernel
theorem dX13_isPlain_174 : decode cX13_isPlain 174 = .ok (.if_icmp .eq 24, 3) := by decide +kernel
theorem dX13_isPlain_177 : decode cX13_isPlain 177 = .ok (.iload_n 0, 1) := by decide +kernel
theorem dX13_isPlain_178 : decode cX13_isPlain 178 = .ok (.sipush 623, 3) := by decide +kernel
theorem dX13_isPlain_181 : decode cX13_isPlain 181 = .ok (.if_icmp .eq 17, 3) := by decide +kernel
theorem dX13_isPlain_184 : decode cX13_isPlain 184 = .ok (.iload_n 0, 1) := by decide +kernel
theorem dX13_isPlain_185 : decode cX13_isPlain 185 = .ok (.sipush 611, 3) := by decide +kernel
theorem dX13_isPlain_188 : decode cX13_isPlain 188 = .ok (.if_icmp .eq 10, 3) := by decide +kernel
theorem dX13_isPlain_191 : decode cX13_isPlain 191 = .ok (.iload_n 0, 1) := by decide +kernel
theorem dX13_isPlain_192 : decode cX13_isPlain 192 = .ok (.sipush 612, 3) := by decide +kernel
theorem dX13_isPlain_195 : decode cX13_isPlain 195 = .ok (.if_icmp .ne 7, 3) := by decide +kernel
theorem dX13_isPlain_198 : decode cX13_isPlain 198 = .ok (.iconst 1, 1) := by decide +kernel
theorem dX13_isPlain_199 : decode cX13_isPlain 199 = .ok (.goto 4, 3) := by decide +kernel
theorem dX13_isPlain_202 : decode cX13_isPlain 202 = .ok (.iconst 0, 1) := by decide +kernel
theorem dX13_isPlain_203 : decode cX13_isPlain 203 = .ok (.ireturn, 1) := by decide +kernel
theorem dX13_isPlainHere_0 : decode cX13_isPlainHere 0 = .ok (.aload_n 0, 1) := by decide +kernel
theorem dX13_isPlainHere_1 : decode cX13_isPlainHere 1 = .ok (.getfield 466, 3) := by decide +kernel
theorem dX13_isPlainHere_4 : decode cX13_isPlainHere 4 = .ok (.ifCond .ne 30, 3) := by decide +kernel
theorem dX13_isPlainHere_7 : decode cX13_isPlainHere 7 = .ok (.iload_n 1, 1) := by decide +kernel
theorem dX13_isPlainHere_8 : decode cX13_isPlainHere 8 = .ok (.invokestatic 600, 3) := by decide +kernel
theorem dX13_isPlainHere_11 : decode cX13_isPlainHere 11 = .ok (.ifCond .ne 17, 3) := by decide +kernel
theorem dX13_isPlainHere_14 : decode cX13_isPlainHere 14 = .ok (.iload_n 1, 1) := by decide +kernel
theorem dX13_isPlainHere_15 : decode cX13_isPlainHere 15 = .ok (.bipush 113, 2) := by decide +kernel
theorem dX13_isPlainHere_17 : decode cX13_isPlainHere 17 = .ok (.if_icmp .ne 15, 3) := by decide +kernel
theorem dX13_isPlainHere_20 : decode cX13_isPlainHere 20 = .ok (.aload_n 0, 1) := by decide +kernel
theorem dX13_isPlainHere_21 : decode cX13_isPlainHere 21 = .ok (.getfield 114, 3) := by decide +kernel
theorem dX13_isPlainHere_24 : decode cX13_isPlainHere 24 = .ok (.iconst (-1), 1) := by decide +kernel
theorem dX13_isPlainHere_25 : decode cX13_isPlainHere 25 = .ok (.if_icmp .eq 7, 3) := by decide +kernel
theorem dX13_isPlainHere_28 : decode cX13_isPlainHere 28 = .ok (.iconst 1, 1) := by decide +kernel
theorem dX13_isPlainHere_29 : decode cX13_isPlainHere 29 = .ok (.goto 4, 3) := by decide +kernel
theorem dX13_isPlainHere_32 : decode cX13_isPlainHere 32 = .ok (.iconst 0, 1) := by decide +kernel
theorem dX13_isPlainHere_33 : decode cX13_isPlainHere 33 = .ok (.ireturn, 1) := by decide +kernel
theorem dX13_isPlainHere_34 : decode cX13_isPlainHere 34 = .ok (.iload_n 1, 1) := by decide +kernel
theorem dX13_isPlainHere_35 : decode cX13_isPlainHere 35 = .ok (.invokestatic 603, 3) := by decide +kernel
theorem dX13_isPlainHere_38 : decode cX13_isPlainHere 38 = .ok (.ifCond .eq 17, 3) := by decide +kernel
theorem dX13_isPlainHere_41 : decode cX13_isPlainHere 41 = .ok (.iload_n 1, 1) := by decide +kernel
theorem dX13_isPlainHere_42 : decode cX13_isPlainHere 42 = .ok (.bipush 99, 2) := by decide +kernel
theorem dX13_isPlainHere_44 : decode cX13_isPlainHere 44 = .ok (.if_icmp .ne 67, 3) := by decide +kernel
theorem dX13_isPlainHere_47 : decode cX13_isPlainHere 47 = .ok (.aload_n 0, 1) := by decide +kernel
theorem dX13_isPlainHere_48 : decode cX13_isPlainHere 48 = .ok (.getfield 466, 3) := by decide +kernel
theorem dX13_isPlainHere_51 : decode cX13_isPlainHere 51 = .ok (.iconst 4, 1) := by decide +kernel
theorem dX13_isPlainHere_52 : decode cX13_isPlainHere 52 = .ok (.if_icmp .ne 59, 3) := by decide +kernel
theorem dX13_isPlainHere_55 : decode cX13_isPlainHere 55 = .ok (.iload_n 1, 1) := by decide +kernel
theorem dX13_isPlainHere_56 : decode cX13_isPlainHere 56 = .ok (.bipush 120, 2) := by decide +kernel
theorem dX13_isPlainHere_58 : decode cX13_isPlainHere 58 = .ok (.if_icmp .eq 53, 3) := by decide +kernel
theorem dX13_isPlainHere_61 : decode cX13_isPlainHere 61 = .ok (.iload_n 1, 1) := by decide +kernel
theorem dX13_isPlainHere_62 : decode cX13_isPlainHere 62 = .ok (.bipush 115, 2) := by decide +kernel
theorem dX13_isPlainHere_64 : decode cX13_isPlainHere 64 = .ok (.if_icmp .ne 11, 3) := by decide +kernel
theorem dX13_isPlainHere_67 : decode cX13_isPlainHere 67 = .ok (.aload_n 0, 1) := by decide +kernel
theorem dX13_isPlainHere_68 : decode cX13_isPlainHere 68 = .ok (.getfield 466, 3) := by decide +kernel
theorem dX13_isPlainHere_71 : decode cX13_isPlainHere 71 = .ok (.iconst 4, 1) := by decide +kernel
theorem dX13_isPlainHere_72 : decode cX13_isPlainHere 72 = .ok (.if_icmp .ne 39, 3) := by decide +kernel
theorem dX13_isPlainHere_75 : decode cX13_isPlainHere 75 = .ok (.iload_n 1, 1) := by decide +kernel
theorem dX13_isPlainHere_76 : decode cX13_isPlainHere 76 = .ok (.bipush 126, 2) := by decide +kernel
theorem dX13_isPlainHere_78 : decode cX13_isPlainHere 78 = .ok (.if_icmp .eq 33, 3) := by decide +kernel
theorem dX13_isPlainHere_81 : decode cX13_isPlainHere 81 = .ok (.iload_n 1, 1) := by decide +kernel
theorem dX13_isPlainHere_82 : decode cX13_isPlainHere 82 = .ok (.bipush 74, 2) := by decide +kernel
theorem dX13_isPlainHere_84 : decode cX13_isPlainHere 84 = .ok (.if_icmp .eq 27, 3) := by decide +kernel
theorem dX13_isPlainHere_87 : decode cX13_isPlainHere 87 = .ok (.iload_n 1, 1) := by decide +kernel
theorem dX13_isPlainHere_88 : decode cX13_isPlainHere 88 = .ok (.bipush 111, 2) := by decide +kernel
theorem dX13_isPlainHere_90 : decode cX13_isPlainHere 90 = .ok (.if_icmp .eq 21, 3) := by decide +kernel
theorem dX13_isPlainHere_93 : decode cX13_isPlainHere 93 = .ok (.iload_n 1, 1) := by decide +kernel
theorem dX13_isPlainHere_94 : decode cX13_isPlainHere 94 = .ok (.bipush 118, 2) := by decide +kernel
theorem dX13_isPlainHere_96 : decode cX13_isPlainHere 96 = .ok (.if_icmp .eq 15, 3) := by decide +kernel
theorem dX13_isPlainHere_99 : decode cX13_isPlainHere 99 = .ok (.iload_n 1, 1) := by decide +kernel
theorem dX13_isPlainHere_100 : decode cX13_isPlainHere 100 = .ok (.bipush 86, 2) := by decide +kernel
theorem dX13_isPlainHere_102 : decode cX13_isPlainHere 102 = .ok (.if_icmp .eq 9, 3) := by decide +kernel
theorem dX13_isPlainHere_105 : decode cX13_isPlainHere 105 = .ok (.iload_n 1, 1) := by decide +kernel
theorem dX13_isPlainHere_106 : decode cX13_isPlainHere 106 = .ok (.bipush 22, 2) := by decide +kernel
theorem dX13_isPlainHere_108 : decode cX13_isPlainHere 108 = .ok (.if_icmp .ne 7, 3) := by decide +kernel
theorem dX13_isPlainHere_111 : decode cX13_isPlainHere 111 = .ok (.iconst 1, 1) := by decide +kernel
theorem dX13_isPlainHere_112 : decode cX13_isPlainHere 112 = .ok (.goto 4, 3) := by decide +kernel
theorem dX13_isPlainHere_115 : decode cX13_isPlainHere 115 = .ok (.iconst 0, 1) := by decide +kernel
theorem dX13_isPlainHere_116 : decode cX13_isPlainHere 116 = .ok (.ireturn, 1) := by decide +kernel
theorem dX13_isLetter_0 : decode cX13_isLetter 0 = .ok (.iload_n 0, 1) := by decide +kernel
theorem dX13_isLetter_1 : decode cX13_isLetter 1 = .ok (.bipush 97, 2) := by decide +kernel
theorem dX13_isLetter_3 : decode cX13_isLetter 3 = .ok (.bipush 122, 2) := by decide +kernel
theorem dX13_isLetter_5 : decode cX13_isLetter 5 = .ok (.invokestatic 198, 3) := by decide +kernel
theorem dX13_isLetter_8 : decode cX13_isLetter 8 = .ok (.ireturn, 1) := by decide +kernel
theorem dX13_counts_0 : decode cX13_counts 0 = .ok (.iload_n 1, 1) := by decide +kernel
theorem dX13_counts_1 : decode cX13_counts 1 = .ok (.istore_n 2, 1) := by decide +kernel
theorem dX13_counts_2 : decode cX13_counts 2 = .ok (.aload_n 0, 1) := by decide +kernel
theorem dX13_counts_3 : decode cX13_counts 3 = .ok (.iconst 0, 1) := by decide +kernel
theorem dX13_counts_4 : decode cX13_counts 4 = .ok (.putfield 606, 3) := by decide +kernel
theorem dX13_counts_7 : decode cX13_counts 7 = .ok (.iload_n 2, 1) := by decide +kernel
theorem dX13_counts_8 : decode cX13_counts 8 = .ok (.aload_n 0, 1) := by decide +kernel
theorem dX13_counts_9 : decode cX13_counts 9 = .ok (.getfield 609, 3) := by decide +kernel
theorem dX13_counts_12 : decode cX13_counts 12 = .ok (.if_icmp .ge 61, 3) := by decide +kernel
theorem dX13_counts_15 : decode cX13_counts 15 = .ok (.aload_n 0, 1) := by decide +kernel
theorem dX13_counts_16 : decode cX13_counts 16 = .ok (.getfield 95, 3) := by decide +kernel
theorem dX13_counts_19 : decode cX13_counts 19 = .ok (.iload_n 2, 1) := by decide +kernel
theorem dX13_counts_20 : decode cX13_counts 20 = .ok (.iaload, 1) := by decide +kernel
theorem dX13_counts_21 : decode cX13_counts 21 = .ok (.iload_n 2, 1) := by decide +kernel
theorem dX13_counts_22 : decode cX13_counts 22 = .ok (.iload_n 1, 1) := by decide +kernel
theorem dX13_counts_23 : decode cX13_counts 23 = .ok (.if_icmp .ne 8, 3) := by decide +kernel
theorem dX13_counts_26 : decode cX13_counts 26 = .ok (.bipush 49, 2) := by decide +kernel
theorem dX13_counts_28 : decode cX13_counts 28 = .ok (.goto 5, 3) := by decide +kernel
theorem dX13_counts_31 : decode cX13_counts 31 = .ok (.bipush 48, 2) := by decide +kernel
theorem dX13_counts_33 : decode cX13_counts 33 = .ok (.bipush 57, 2) := by decide +kernel
theorem dX13_counts_35 : decode cX13_counts 35 = .ok (.invokestatic 198, 3) := by decide +kernel
theorem dX13_counts_38 : decode cX13_counts 38 = .ok (.ifCond .eq 35, 3) := by decide +kernel
theorem dX13_counts_41 : decode cX13_counts 41 = .ok (.aload_n 0, 1) := by decide +kernel
theorem dX13_counts_42 : decode cX13_counts 42 = .ok (.bipush 99, 2) := by decide +kernel
theorem dX13_counts_44 : decode cX13_counts 44 = .ok (.bipush 10, 2) := by decide +kernel
theorem dX13_counts_46 : decode cX13_counts 46 = .ok (.aload_n 0, 1) := by decide +kernel
theorem dX13_counts_47 : decode cX13_counts 47 = .ok (.getfield 606, 3) := by decide +kernel
theorem dX13_counts_50 : decode cX13_counts 50 = .ok (.imul, 1) := by decide +kernel
theorem dX13_counts_51 : decode cX13_counts 51 = .ok (.aload_n 0, 1) := by decide +kernel
theorem dX13_counts_52 : decode cX13_counts 52 = .ok (.getfield 95, 3) := by decide +kernel
theorem dX13_counts_55 : decode cX13_counts 55 = .ok (.iload_n 2, 1) := by decide +kernel
theorem dX13_counts_56 : decode cX13_counts 56 = .ok (.iaload, 1) := by decide +kernel
theorem dX13_counts_57 : decode cX13_counts 57 = .ok (.iadd, 1) := by decide +kernel
theorem dX13_counts_58 : decode cX13_counts 58 = .ok (.bipush 48, 2) := by decide +kernel
theorem dX13_counts_60 : decode cX13_counts 60 = .ok (.isub, 1) := by decide +kernel
theorem dX13_counts_61 : decode cX13_counts 61 = .ok (.invokestatic 257, 3) := by decide +kernel
theorem dX13_counts_64 : decode cX13_counts 64 = .ok (.putfield 606, 3) := by decide +kernel
theorem dX13_counts_67 : decode cX13_counts 67 = .ok (.iinc 2 1, 3) := by decide +kernel
theorem dX13_counts_70 : decode cX13_counts 70 = .ok (.goto (-63), 3) := by decide +kernel
theorem dX13_counts_73 : decode cX13_counts 73 = .ok (.iload_n 2, 1) := by decide +kernel
theorem dX13_counts_74 : decode cX13_counts 74 = .ok (.ireturn, 1) := by decide +kernel
theorem dX13_readsArgument_0 : decode cX13_readsArgument 0 = .ok (.iload_n 1, 1) := by decide +kernel
theorem dX13_readsArgument_1 : decode cX13_readsArgument 1 = .ok (.aload_n 0, 1) := by decide +kernel
theorem dX13_readsArgument_2 : decode cX13_readsArgument 2 = .ok (.getfield 609, 3) := by decide +kernel
theorem dX13_readsArgument_5 : decode cX13_readsArgument 5 = .ok (.if_icmp .ne 5, 3) := by decide +kernel
theorem dX13_readsArgument_8 : decode cX13_readsArgument 8 = .ok (.iconst 0, 1) := by decide +kernel
theorem dX13_readsArgument_9 : decode cX13_readsArgument 9 = .ok (.ireturn, 1) := by decide +kernel
theorem dX13_readsArgument_10 : decode cX13_readsArgument 10 = .ok (.aload_n 0, 1) := by decide +kernel
theorem dX13_readsArgument_11 : decode cX13_readsArgument 11 = .ok (.aload_n 0, 1) := by decide +kernel
theorem dX13_readsArgument_12 : decode cX13_readsArgument 12 = .ok (.getfield 95, 3) := by decide +kernel
theorem dX13_readsArgument_15 : decode cX13_readsArgument 15 = .ok (.aload_n 0, 1) := by decide +kernel
theorem dX13_readsArgument_16 : decode cX13_readsArgument 16 = .ok (.getfield 609, 3) := by decide +kernel
theorem dX13_readsArgument_19 : decode cX13_readsArgument 19 = .ok (.iconst 1, 1) := by decide +kernel
theorem dX13_readsArgument_20 : decode cX13_readsArgument 20 = .ok (.isub, 1) := by decide +kernel
theorem dX13_readsArgument_21 : decode cX13_readsArgument 21 = .ok (.iaload, 1) := by decide +kernel
theorem dX13_readsArgument_22 : decode cX13_readsArgument 22 = .ok (.putfield 612, 3) := by decide +kernel
theorem dX13_readsArgument_25 : decode cX13_readsArgument 25 = .ok (.aload_n 0, 1) := by decide +kernel
theorem dX13_readsArgument_26 : decode cX13_readsArgument 26 = .ok (.getfield 615, 3) := by decide +kernel
theorem dX13_readsArgument_29 : decode cX13_readsArgument 29 = .ok (.lookupswitch 129 #[(39, 88), (47, 59), (64, 104), (96, 88), (109, 88), (113, 88)], 59) := by decide +kernel
theorem dX13_readsArgument_88 : decode cX13_readsArgument 88 = .ok (.aload_n 0, 1) := by decide +kernel
theorem dX13_readsArgument_89 : decode cX13_readsArgument 89 = .ok (.getfield 612, 3) := by decide +kernel
theorem dX13_readsArgument_92 : decode cX13_readsArgument 92 = .ok (.bipush 13, 2) := by decide +kernel
theorem dX13_readsArgument_94 : decode cX13_readsArgument 94 = .ok (.if_icmp .ne 7, 3) := by decide +kernel
theorem dX13_readsArgument_97 : decode cX13_readsArgument 97 = .ok (.iconst 2, 1) := by decide +kernel
theorem dX13_readsArgument_98 : decode cX13_readsArgument 98 = .ok (.goto 18, 3) := by decide +kernel
theorem dX13_readsArgument_101 : decode cX13_readsArgument 101 = .ok (.aload_n 0, 1) := by decide +kernel
theorem dX13_readsArgument_102 : decode cX13_readsArgument 102 = .ok (.getfield 612, 3) := by decide +kernel
theorem dX13_readsArgument_105 : decode cX13_readsArgument 105 = .ok (.invokestatic 202, 3) := by decide +kernel
theorem dX13_readsArgument_108 : decode cX13_readsArgument 108 = .ok (.ifCond .eq 7, 3) := by decide +kernel
theorem dX13_readsArgument_111 : decode cX13_readsArgument 111 = .ok (.iconst 0, 1) := by decide +kernel
theorem dX13_readsArgument_112 : decode cX13_readsArgument 112 = .ok (.goto 4, 3) := by decide +kernel
theorem dX13_readsArgument_115 : decode cX13_readsArgument 115 = .ok (.iconst 1, 1) := by decide +kernel
theorem dX13_readsArgument_116 : decode cX13_readsArgument 116 = .ok (.ireturn, 1) := by decide +kernel
theorem dX13_readsArgument_117 : decode cX13_readsArgument 117 = .ok (.aload_n 0, 1) := by decide +kernel
theorem dX13_readsArgument_118 : decode cX13_readsArgument 118 = .ok (.getfield 612, 3) := by decide +kernel
theorem dX13_readsArgument_121 : decode cX13_readsArgument 121 = .ok (.invokestatic 618, 3) := by decide +kernel
theorem dX13_readsArgument_124 : decode cX13_readsArgument 124 = .ok (.ifCond .eq 7, 3) := by decide +kernel
theorem dX13_readsArgument_127 : decode cX13_readsArgument 127 = .ok (.iconst 2, 1) := by decide +kernel
theorem dX13_readsArgument_128 : decode cX13_readsArgument 128 = .ok (.goto 4, 3) := by decide +kernel
theorem dX13_readsArgument_131 : decode cX13_readsArgument 131 = .ok (.iconst 1, 1) := by decide +kernel
theorem dX13_readsArgument_132 : decode cX13_readsArgument 132 = .ok (.ireturn, 1) := by decide +kernel
theorem dX13_readsArgument_133 : decode cX13_readsArgument 133 = .ok (.aload_n 0, 1) := by decide +kernel
theorem dX13_readsArgument_134 : decode cX13_readsArgument 134 = .ok (.getfield 612, 3) := by decide +kernel
theorem dX13_readsArgument_137 : decode cX13_readsArgument 137 = .ok (.invokestatic 618, 3) := by decide +kernel
theorem dX13_readsArgument_140 : decode cX13_readsArgument 140 = .ok (.ifCond .ne 12, 3) := by decide +kernel
theorem dX13_readsArgument_143 : decode cX13_readsArgument 143 = .ok (.aload_n 0, 1) := by decide +kernel
theorem dX13_readsArgument_144 : decode cX13_readsArgument 144 = .ok (.getfield 612, 3) := by decide +kernel
theorem dX13_readsArgument_147 : decode cX13_readsArgument 147 = .ok (.bipush 64, 2) := by decide +kernel
theorem dX13_readsArgument_149 : decode cX13_readsArgument 149 = .ok (.if_icmp .ne 7, 3) := by decide +kernel
theorem dX13_readsArgument_152 : decode cX13_readsArgument 152 = .ok (.iconst 2, 1) := by decide +kernel
theorem dX13_readsArgument_153 : decode cX13_readsArgument 153 = .ok (.goto 4, 3) := by decide +kernel
theorem dX13_readsArgument_156 : decode cX13_readsArgument 156 = .ok (.iconst 1, 1) := by decide +kernel
theorem dX13_readsArgument_157 : decode cX13_readsArgument 157 = .ok (.ireturn, 1) := by decide +kernel
theorem dX13_readsArgument_158 : decode cX13_readsArgument 158 = .ok (.aload_n 0, 1) := by decide +kernel
theorem dX13_readsArgument_159 : decode cX13_readsArgument 159 = .ok (.getfield 612, 3) := by decide +kernel
theorem dX13_readsArgument_162 : decode cX13_readsArgument 162 = .ok (.invokestatic 202, 3) := by decide +kernel
theorem dX13_readsArgument_165 : decode cX13_readsArgument 165 = .ok (.ifCond .eq 7, 3) := by decide +kernel
theorem dX13_readsArgument_168 : decode cX13_readsArgument 168 = .ok (.iconst 2, 1) := by decide +kernel
theorem dX13_readsArgument_169 : decode cX13_readsArgument 169 = .ok (.goto 4, 3) := by decide +kernel
theorem dX13_readsArgument_172 : decode cX13_readsArgument 172 = .ok (.iconst 1, 1) := by decide +kernel
theorem dX13_readsArgument_173 : decode cX13_readsArgument 173 = .ok (.ireturn, 1) := by decide +kernel
theorem dX13_readsObject_0 : decode cX13_readsObject 0 = .ok (.aload_n 0, 1) := by decide +kernel
theorem dX13_readsObject_1 : decode cX13_readsObject 1 = .ok (.aload_n 0, 1) := by decide +kernel
theorem dX13_readsObject_2 : decode cX13_readsObject 2 = .ok (.getfield 95, 3) := by decide +kernel
theorem dX13_readsObject_5 : decode cX13_readsObject 5 = .ok (.iload_n 1, 1) := by decide +kernel
theorem dX13_readsObject_6 : decode cX13_readsObject 6 = .ok (.iaload, 1) := by decide +kernel
theorem dX13_readsObject_7 : decode cX13_readsObject 7 = .ok (.bipush 97, 2) := by decide +kernel
theorem dX13_readsObject_9 : decode cX13_readsObject 9 = .ok (.if_icmp .ne 7, 3) := by decide +kernel
theorem dX13_readsObject_12 : decode cX13_readsObject 12 = .ok (.iconst 1, 1) := by decide +kernel
theorem dX13_readsObject_13 : decode cX13_readsObject 13 = .ok (.goto 4, 3) := by decide +kernel
theorem dX13_readsObject_16 : decode cX13_readsObject 16 = .ok (.iconst 0, 1) := by decide +kernel
theorem dX13_readsObject_17 : decode cX13_readsObject 17 = .ok (.putfield 621, 3) := by decide +kernel
theorem dX13_readsObject_20 : decode cX13_readsObject 20 = .ok (.aload_n 0, 1) := by decide +kernel
theorem dX13_readsObject_21 : decode cX13_readsObject 21 = .ok (.sipush 1024, 3) := by decide +kernel
theorem dX13_readsObject_24 : decode cX13_readsObject 24 = .ok (.putfield 615, 3) := by decide +kernel
theorem dX13_readsObject_27 : decode cX13_readsObject 27 = .ok (.iload_n 1, 1) := by decide +kernel
theorem dX13_readsObject_28 : decode cX13_readsObject 28 = .ok (.iconst 1, 1) := by decide +kernel
theorem dX13_readsObject_29 : decode cX13_readsObject 29 = .ok (.iadd, 1) := by decide +kernel
theorem dX13_readsObject_30 : decode cX13_readsObject 30 = .ok (.aload_n 0, 1) := by decide +kernel
theorem dX13_readsObject_31 : decode cX13_readsObject 31 = .ok (.getfield 609, 3) := by decide +kernel
theorem dX13_readsObject_34 : decode cX13_readsObject 34 = .ok (.if_icmp .ne 5, 3) := by decide +kernel
theorem dX13_readsObject_37 : decode cX13_readsObject 37 = .ok (.iconst 0, 1) := by decide +kernel
theorem dX13_readsObject_38 : decode cX13_readsObject 38 = .ok (.ireturn, 1) := by decide +kernel
theorem dX13_readsObject_39 : decode cX13_readsObject 39 = .ok (.aload_n 0, 1) := by decide +kernel
theorem dX13_readsObject_40 : decode cX13_readsObject 40 = .ok (.aload_n 0, 1) := by decide +kernel
theorem dX13_readsObject_41 : decode cX13_readsObject 41 = .ok (.getfield 95, 3) := by decide +kernel
theorem dX13_readsObject_44 : decode cX13_readsObject 44 = .ok (.iload_n 1, 1) := by decide +kernel
theorem dX13_readsObject_45 : decode cX13_readsObject 45 = .ok (.iconst 1, 1) := by decide +kernel
theorem dX13_readsObject_46 : decode cX13_readsObject 46 = .ok (.iadd, 1) := by decide +kernel
theorem dX13_readsObject_47 : decode cX13_readsObject 47 = .ok (.iaload, 1) := by decide +kernel
theorem dX13_readsObject_48 : decode cX13_readsObject 48 = .ok (.putfield 612, 3) := by decide +kernel
theorem dX13_readsObject_51 : decode cX13_readsObject 51 = .ok (.aload_n 0, 1) := by decide +kernel
theorem dX13_readsObject_52 : decode cX13_readsObject 52 = .ok (.getfield 612, 3) := by decide +kernel
theorem dX13_readsObject_55 : decode cX13_readsObject 55 = .ok (.invokestatic 624, 3) := by decide +kernel
theorem dX13_readsObject_58 : decode cX13_readsObject 58 = .ok (.ifCond .eq 7, 3) := by decide +kernel
theorem dX13_readsObject_61 : decode cX13_readsObject 61 = .ok (.iconst 2, 1) := by decide +kernel
theorem dX13_readsObject_62 : decode cX13_readsObject 62 = .ok (.goto 4, 3) := by decide +kernel
theorem dX13_readsObject_65 : decode cX13_readsObject 65 = .ok (.iconst 1, 1) := by decide +kernel
theorem dX13_readsObject_66 : decode cX13_readsObject 66 = .ok (.ireturn, 1) := by decide +kernel
theorem dX13_readsTarget_0 : decode cX13_readsTarget 0 = .ok (.aload_n 0, 1) := by decide +kernel
theorem dX13_readsTarget_1 : decode cX13_readsTarget 1 = .ok (.getfield 95, 3) := by decide +kernel
theorem dX13_readsTarget_4 : decode cX13_readsTarget 4 = .ok (.iload_n 1, 1) := by decide +kernel
theorem dX13_readsTarget_5 : decode cX13_readsTarget 5 = .ok (.iaload, 1) := by decide +kernel
theorem dX13_readsTarget_6 : decode cX13_readsTarget 6 = .ok (.istore_n 2, 1) := by decide +kernel
theorem dX13_readsTarget_7 : decode cX13_readsTarget 7 = .ok (.aload_n 0, 1) := by decide +kernel
theorem dX13_readsTarget_8 : decode cX13_readsTarget 8 = .ok (.iload_n 1, 1) := by decide +kernel
theorem dX13_readsTarget_9 : decode cX13_readsTarget 9 = .ok (.iconst 1, 1) := by decide +kernel
theorem dX13_readsTarget_10 : decode cX13_readsTarget 10 = .ok (.iadd, 1) := by decide +kernel
theorem dX13_readsTarget_11 : decode cX13_readsTarget 11 = .ok (.putfield 627, 3) := by decide +kernel
theorem dX13_readsTarget_14 : decode cX13_readsTarget 14 = .ok (.iload_n 2, 1) := by decide +kernel
theorem dX13_readsTarget_15 : decode cX13_readsTarget 15 = .ok (.aload_n 0, 1) := by decide +kernel
theorem dX13_readsTarget_16 : decode cX13_readsTarget 16 = .ok (.getfield 630, 3) := by decide +kernel
theorem dX13_readsTarget_19 : decode cX13_readsTarget 19 = .ok (.sipush 382, 3) := by decide +kernel
theorem dX13_readsTarget_22 : decode cX13_readsTarget 22 = .ok (.if_icmp .ne 8, 3) := by decide +kernel
theorem dX13_readsTarget_25 : decode cX13_readsTarget 25 = .ok (.bipush 126, 2) := by decide +kernel
theorem dX13_readsTarget_27 : decode cX13_readsTarget 27 = .ok (.goto 22, 3) := by decide +kernel
theorem dX13_readsTarget_30 : decode cX13_readsTarget 30 = .ok (.aload_n 0, 1) := by decide +kernel
theorem dX13_readsTarget_31 : decode cX13_readsTarget 31 = .ok (.getfield 630, 3) := by decide +kernel
theorem dX13_readsTarget_34 : decode cX13_readsTarget 34 = .ok (.sipush 614, 3) := by decide +kernel
theorem dX13_readsTarget_37 : decode cX13_readsTarget 37 = .ok (.if_icmp .ne 8, 3) := by decide +kernel
theorem dX13_readsTarget_40 : decode cX13_readsTarget 40 = .ok (.bipush 122, 2) := by decide +kernel
theorem dX13_readsTarget_42 : decode cX13_readsTarget 42 = .ok (.goto 7, 3) := by decide +kernel
theorem dX13_readsTarget_45 : decode cX13_readsTarget 45 = .ok (.aload_n 0, 1) := by decide +kernel
theorem dX13_readsTarget_46 : decode cX13_readsTarget 46 = .ok (.getfield 630, 3) := by decide +kernel
theorem dX13_readsTarget_49 : decode cX13_readsTarget 49 = .ok (.if_icmp .ne 12, 3) := by decide +kernel
theorem dX13_readsTarget_52 : decode cX13_readsTarget 52 = .ok (.aload_n 0, 1) := by decide +kernel
theorem dX13_readsTarget_53 : decode cX13_readsTarget 53 = .ok (.sipush 1025, 3) := by decide +kernel
theorem dX13_readsTarget_56 : decode cX13_readsTarget 56 = .ok (.putfield 615, 3) := by decide +kernel
theorem dX13_readsTarget_59 : decode cX13_readsTarget 59 = .ok (.iconst 2, 1) := by decide +kernel
theorem dX13_readsTarget_60 : decode cX13_readsTarget 60 = .ok (.ireturn, 1) := by decide +kernel
theorem dX13_readsTarget_61 : decode cX13_readsTarget 61 = .ok (.iload_n 2, 1) := by decide +kernel
theorem dX13_readsTarget_62 : decode cX13_readsTarget 62 = .ok (.bipush 105, 2) := by decide +kernel
theorem dX13_readsTarget_64 : decode cX13_readsTarget 64 = .ok (.if_icmp .eq 9, 3) := by decide +kernel
theorem dX13_readsTarget_67 : decode cX13_readsTarget 67 = .ok (.iload_n 2, 1) := by decide +kernel
theorem dX13_readsTarget_68 : decode cX13_readsTarget 68 = .ok (.bipush 97, 2) := by decide +kernel
theorem dX13_readsTarget_70 : decode cX13_readsTarget 70 = .ok (.if_icmp .ne 9, 3) := by decide +kernel
theorem dX13_readsTarget_73 : decode cX13_readsTarget 73 = .ok (.aload_n 0, 1) := by decide +kernel
theorem dX13_readsTarget_74 : decode cX13_readsTarget 74 = .ok (.iload_n 1, 1) := by decide +kernel
theorem dX13_readsTarget_75 : decode cX13_readsTarget 75 = .ok (.invokevirtual 633, 3) := by decide +kernel
theorem dX13_readsTarget_78 : decode cX13_readsTarget 78 = .ok (.ireturn, 1) := by decide +kernel
theorem dX13_readsTarget_79 : decode cX13_readsTarget 79 = .ok (.iload_n 2, 1) := by decide +kernel
theorem dX13_readsTarget_80 : decode cX13_readsTarget 80 = .ok (.bipush 103, 2) := by decide +kernel
theorem dX13_readsTarget_82 : decode cX13_readsTarget 82 = .ok (.if_icmp .ne 43, 3) := by decide +kernel
theorem dX13_readsTarget_85 : decode cX13_readsTarget 85 = .ok (.aload_n 0, 1) := by decide +kernel
theorem dX13_readsTarget_86 : decode cX13_readsTarget 86 = .ok (.sipush 359, 3) := by decide +kernel
theorem dX13_readsTarget_89 : decode cX13_readsTarget 89 = .ok (.putfield 615, 3) := by decide +kernel
theorem dX13_readsTarget_92 : decode cX13_readsTarget 92 = .ok (.iload_n 1, 1) := by decide +kernel
theorem dX13_readsTarget_93 : decode cX13_readsTarget 93 = .ok (.iconst 1, 1) := by decide +kernel
theorem dX13_readsTarget_94 : decode cX13_readsTarget 94 = .ok (.iadd, 1) := by decide +kernel
theorem dX13_readsTarget_95 : decode cX13_readsTarget 95 = .ok (.aload_n 0, 1) := by decide +kernel
theorem dX13_readsTarget_96 : decode cX13_readsTarget 96 = .ok (.getfield 609, 3) := by decide +kernel
theorem dX13_readsTarget_99 : decode cX13_readsTarget 99 = .ok (.if_icmp .ne 7, 3) := by decide +kernel
theorem dX13_readsTarget_102 : decode cX13_readsTarget 102 = .ok (.iconst 0, 1) := by decide +kernel
theorem dX13_readsTarget_103 : decode cX13_readsTarget 103 = .ok (.goto 21, 3) := by decide +kernel
theorem dX13_readsTarget_106 : decode cX13_readsTarget 106 = .ok (.aload_n 0, 1) := by decide +kernel
theorem dX13_readsTarget_107 : decode cX13_readsTarget 107 = .ok (.getfield 95, 3) := by decide +kernel
theorem dX13_readsTarget_110 : decode cX13_readsTarget 110 = .ok (.iload_n 1, 1) := by decide +kernel
theorem dX13_readsTarget_111 : decode cX13_readsTarget 111 = .ok (.iconst 1, 1) := by decide +kernel
theorem dX13_readsTarget_112 : decode cX13_readsTarget 112 = .ok (.iadd, 1) := by decide +kernel
theorem dX13_readsTarget_113 : decode cX13_readsTarget 113 = .ok (.iaload, 1) := by decide +kernel
theorem dX13_readsTarget_114 : decode cX13_readsTarget 114 = .ok (.bipush 103, 2) := by decide +kernel
theorem dX13_readsTarget_116 : decode cX13_readsTarget 116 = .ok (.if_icmp .ne 7, 3) := by decide +kernel
theorem dX13_readsTarget_119 : decode cX13_readsTarget 119 = .ok (.iconst 2, 1) := by decide +kernel
theorem dX13_readsTarget_120 : decode cX13_readsTarget 120 = .ok (.goto 4, 3) := by decide +kernel
theorem dX13_readsTarget_123 : decode cX13_readsTarget 123 = .ok (.iconst 1, 1) := by decide +kernel
theorem dX13_readsTarget_124 : decode cX13_readsTarget 124 = .ok (.ireturn, 1) := by decide +kernel
theorem dX13_readsTarget_125 : decode cX13_readsTarget 125 = .ok (.aload_n 0, 1) := by decide +kernel
theorem dX13_readsTarget_126 : decode cX13_readsTarget 126 = .ok (.iload_n 2, 1) := by decide +kernel
theorem dX13_readsTarget_127 : decode cX13_readsTarget 127 = .ok (.putfield 615, 3) := by decide +kernel
theorem dX13_readsTarget_130 : decode cX13_readsTarget 130 = .ok (.iload_n 2, 1) := by decide +kernel
theorem dX13_readsTarget_131 : decode cX13_readsTarget 131 = .ok (.invokestatic 636, 3) := by decide +kernel
theorem dX13_readsTarget_134 : decode cX13_readsTarget 134 = .ok (.ifCond .ne 7, 3) := by decide +kernel
theorem dX13_readsTarget_137 : decode cX13_readsTarget 137 = .ok (.iconst 1, 1) := by decide +kernel
theorem dX13_readsTarget_138 : decode cX13_readsTarget 138 = .ok (.goto 21, 3) := by decide +kernel
theorem dX13_readsTarget_141 : decode cX13_readsTarget 141 = .ok (.iload_n 2, 1) := by decide +kernel
theorem dX13_readsTarget_142 : decode cX13_readsTarget 142 = .ok (.invokestatic 597, 3) := by decide +kernel
theorem dX13_readsTarget_145 : decode cX13_readsTarget 145 = .ok (.ifCond .eq 13, 3) := by decide +kernel
theorem dX13_readsTarget_148 : decode cX13_readsTarget 148 = .ok (.aload_n 0, 1) := by decide +kernel
theorem dX13_readsTarget_149 : decode cX13_readsTarget 149 = .ok (.iload_n 1, 1) := by decide +kernel
theorem dX13_readsTarget_150 : decode cX13_readsTarget 150 = .ok (.iconst 1, 1) := by decide +kernel
theorem dX13_readsTarget_151 : decode cX13_readsTarget 151 = .ok (.iadd, 1) := by decide +kernel
theorem dX13_readsTarget_152 : decode cX13_readsTarget 152 = .ok (.invokevirtual 639, 3) := by decide +kernel
theorem dX13_readsTarget_155 : decode cX13_readsTarget 155 = .ok (.goto 4, 3) := by decide +kernel
theorem dX13_readsTarget_158 : decode cX13_readsTarget 158 = .ok (.iconst 2, 1) := by decide +kernel
theorem dX13_readsTarget_159 : decode cX13_readsTarget 159 = .ok (.ireturn, 1) := by decide +kernel
theorem dX13_reads_0 : decode cX13_reads 0 = .ok (.iconst 0, 1) := by decide +kernel
theorem dX13_reads_1 : decode cX13_reads 1 = .ok (.istore_n 1, 1) := by decide +kernel
theorem dX13_reads_2 : decode cX13_reads 2 = .ok (.aload_n 0, 1) := by decide +kernel
theorem dX13_reads_3 : decode cX13_reads 3 = .ok (.iconst 0, 1) := by decide +kernel
theorem dX13_reads_4 : decode cX13_reads 4 = .ok (.putfield 642, 3) := by decide +kernel
theorem dX13_reads_7 : decode cX13_reads 7 = .ok (.aload_n 0, 1) := by decide +kernel
theorem dX13_reads_8 : decode cX13_reads 8 = .ok (.iconst 0, 1) := by decide +kernel
theorem dX13_reads_9 : decode cX13_reads 9 = .ok (.putfield 630, 3) := by decide +kernel
theorem dX13_reads_12 : decode cX13_reads 12 = .ok (.aload_n 0, 1) := by decide +kernel
theorem dX13_reads_13 : decode cX13_reads 13 = .ok (.iconst 0, 1) := by decide +kernel
theorem dX13_reads_14 : decode cX13_reads 14 = .ok (.putfield 645, 3) := by decide +kernel
theorem dX13_reads_17 : decode cX13_reads 17 = .ok (.aload_n 0, 1) := by decide +kernel
theorem dX13_reads_18 : decode cX13_reads 18 = .ok (.getfield 95, 3) := by decide +kernel
theorem dX13_reads_21 : decode cX13_reads 21 = .ok (.iconst 0, 1) := by decide +kernel
theorem dX13_reads_22 : decode cX13_reads 22 = .ok (.iaload, 1) := by decide +kernel
theorem dX13_reads_23 : decode cX13_reads 23 = .ok (.bipush 34, 2) := by decide +kernel
theorem dX13_reads_25 : decode cX13_reads 25 = .ok (.if_icmp .ne 60, 3) := by decide +kernel
theorem dX13_reads_28 : decode cX13_reads 28 = .ok (.aload_n 0, 1) := by decide +kernel
theorem dX13_reads_29 : decode cX13_reads 29 = .ok (.aload_n 0, 1) := by decide +kernel
theorem dX13_reads_30 : decode cX13_reads 30 = .ok (.getfield 609, 3) := by decide +kernel
theorem dX13_reads_33 : decode cX13_reads 33 = .ok (.iconst 1, 1) := by decide +kernel
theorem dX13_reads_34 : decode cX13_reads 34 = .ok (.if_icmp .le 12, 3) := by decide +kernel
theorem dX13_reads_37 : decode cX13_reads 37 = .ok (.aload_n 0, 1) := by decide +kernel
theorem dX13_reads_38 : decode cX13_reads 38 = .ok (.getfield 95, 3) := by decide +kernel
theorem dX13_reads_41 : decode cX13_reads 41 = .ok (.iconst 1, 1) := by decide +kernel
theorem dX13_reads_42 : decode cX13_reads 42 = .ok (.iaload, 1) := by decide +kernel
theorem dX13_reads_43 : decode cX13_reads 43 = .ok (.goto 4, 3) := by decide +kernel
theorem dX13_reads_46 : decode cX13_reads 46 = .ok (.iconst 0, 1) := by decide +kernel
theorem dX13_reads_47 : decode cX13_reads 47 = .ok (.putfield 642, 3) := by decide +kernel
theorem dX13_reads_50 : decode cX13_reads 50 = .ok (.aload_n 0, 1) := by decide +kernel
theorem dX13_reads_51 : decode cX13_reads 51 = .ok (.getfield 609, 3) := by decide +kernel
theorem dX13_reads_54 : decode cX13_reads 54 = .ok (.iconst 1, 1) := by decide +kernel
theorem dX13_reads_55 : decode cX13_reads 55 = .ok (.if_icmp .eq 14, 3) := by decide +kernel
theorem dX13_reads_58 : decode cX13_reads 58 = .ok (.aload_n 0, 1) := by decide +kernel
theorem dX13_reads_59 : decode cX13_reads 59 = .ok (.getfield 642, 3) := by decide +kernel
theorem dX13_reads_62 : decode cX13_reads 62 = .ok (.invokestatic 457, 3) := by decide +kernel
theorem dX13_reads_65 : decode cX13_reads 65 = .ok (.iconst (-1), 1) := by decide +kernel
theorem dX13_reads_66 : decode cX13_reads 66 = .ok (.if_icmp .ne 17, 3) := by decide +kernel
theorem dX13_reads_69 : decode cX13_reads 69 = .ok (.aload_n 0, 1) := by decide +kernel
theorem dX13_reads_70 : decode cX13_reads 70 = .ok (.getfield 609, 3) := by decide +kernel
theorem dX13_reads_73 : decode cX13_reads 73 = .ok (.iconst 1, 1) := by decide +kernel
theorem dX13_reads_74 : decode cX13_reads 74 = .ok (.if_icmp .ne 7, 3) := by decide +kernel
theorem dX13_reads_77 : decode cX13_reads 77 = .ok (.iconst 0, 1) := by decide +kernel
theorem dX13_reads_78 : decode cX13_reads 78 = .ok (.goto 4, 3) := by decide +kernel
theorem dX13_reads_81 : decode cX13_reads 81 = .ok (.iconst 1, 1) := by decide +kernel
theorem dX13_reads_82 : decode cX13_reads 82 = .ok (.ireturn, 1) := by decide +kernel
theorem dX13_reads_83 : decode cX13_reads 83 = .ok (.iconst 2, 1) := by decide +kernel
theorem dX13_reads_84 : decode cX13_reads 84 = .ok (.istore_n 1, 1) := by decide +kernel
theorem dX13_reads_85 : decode cX13_reads 85 = .ok (.aload_n 0, 1) := by decide +kernel
theorem dX13_reads_86 : decode cX13_reads 86 = .ok (.iload_n 1, 1) := by decide +kernel
theorem dX13_reads_87 : decode cX13_reads 87 = .ok (.putfield 648, 3) := by decide +kernel
theorem dX13_reads_90 : decode cX13_reads 90 = .ok (.aload_n 0, 1) := by decide +kernel
theorem dX13_reads_91 : decode cX13_reads 91 = .ok (.iload_n 1, 1) := by decide +kernel
theorem dX13_reads_92 : decode cX13_reads 92 = .ok (.invokevirtual 651, 3) := by decide +kernel
theorem dX13_reads_95 : decode cX13_reads 95 = .ok (.istore_n 1, 1) := by decide +kernel
theorem dX13_reads_96 : decode cX13_reads 96 = .ok (.aload_n 0, 1) := by decide +kernel
theorem dX13_reads_97 : decode cX13_reads 97 = .ok (.aload_n 0, 1) := by decide +kernel
theorem dX13_reads_98 : decode cX13_reads 98 = .ok (.getfield 606, 3) := by decide +kernel
theorem dX13_reads_101 : decode cX13_reads 101 = .ok (.putfield 654, 3) := by decide +kernel
theorem dX13_reads_104 : decode cX13_reads 104 = .ok (.aload_n 0, 1) := by decide +kernel
theorem dX13_reads_105 : decode cX13_reads 105 = .ok (.iload_n 1, 1) := by decide +kernel
theorem dX13_reads_106 : decode cX13_reads 106 = .ok (.putfield 657, 3) := by decide +kernel
theorem dX13_reads_109 : decode cX13_reads 109 = .ok (.aload_n 0, 1) := by decide +kernel
theorem dX13_reads_110 : decode cX13_reads 110 = .ok (.iload_n 1, 1) := by decide +kernel
theorem dX13_reads_111 : decode cX13_reads 111 = .ok (.putfield 660, 3) := by decide +kernel
theorem dX13_reads_114 : decode cX13_reads 114 = .ok (.aload_n 0, 1) := by decide +kernel
theorem dX13_reads_115 : decode cX13_reads 115 = .ok (.iload_n 1, 1) := by decide +kernel
theorem dX13_reads_116 : decode cX13_reads 116 = .ok (.putfield 663, 3) := by decide +kernel
theorem dX13_reads_119 : decode cX13_reads 119 = .ok (.iload_n 1, 1) := by decide +kernel
theorem dX13_reads_120 : decode cX13_reads 120 = .ok (.aload_n 0, 1) := by decide +kernel
theorem dX13_reads_121 : decode cX13_reads 121 = .ok (.getfield 609, 3) := by decide +kernel
theorem dX13_reads_124 : decode cX13_reads 124 = .ok (.if_icmp .ne 5, 3) := by decide +kernel
theorem dX13_reads_127 : decode cX13_reads 127 = .ok (.iconst 0, 1) := by decide +kernel
theorem dX13_reads_128 : decode cX13_reads 128 = .ok (.ireturn, 1) := by decide +kernel
theorem dX13_reads_129 : decode cX13_reads 129 = .ok (.aload_n 0, 1) := by decide +kernel
theorem dX13_reads_130 : decode cX13_reads 130 = .ok (.getfield 95, 3) := by decide +kernel
theorem dX13_reads_133 : decode cX13_reads 133 = .ok (.iload_n 1, 1) := by decide +kernel
theorem dX13_reads_134 : decode cX13_reads 134 = .ok (.iaload, 1) := by decide +kernel
theorem dX13_reads_135 : decode cX13_reads 135 = .ok (.istore_n 2, 1) := by decide +kernel
theorem dX13_reads_136 : decode cX13_reads 136 = .ok (.aload_n 0, 1) := by decide +kernel
theorem dX13_reads_137 : decode cX13_reads 137 = .ok (.iload_n 2, 1) := by decide +kernel
theorem dX13_reads_138 : decode cX13_reads 138 = .ok (.putfield 615, 3) := by decide +kernel
theorem dX13_reads_141 : decode cX13_reads 141 = .ok (.aload_n 0, 1) := by decide +kernel
theorem dX13_reads_142 : decode cX13_reads 142 = .ok (.iload_n 1, 1) := by decide +kernel
theorem dX13_reads_143 : decode cX13_reads 143 = .ok (.iconst 1, 1) := by decide +kernel
theorem dX13_reads_144 : decode cX13_reads 144 = .ok (.iadd, 1) := by decide +kernel
theorem dX13_reads_145 : decode cX13_reads 145 = .ok (.putfield 627, 3) := by decide +kernel
theorem dX13_reads_148 : decode cX13_reads 148 = .ok (.aload_n 0, 1) := by decide +kernel
theorem dX13_reads_149 : decode cX13_reads 149 = .ok (.getfield 466, 3) := by decide +kernel
theorem dX13_reads_152 : decode cX13_reads 152 = .ok (.ifCond .eq 21, 3) := by decide +kernel
theorem dX13_reads_155 : decode cX13_reads 155 = .ok (.iload_n 2, 1) := by decide +kernel
theorem dX13_reads_156 : decode cX13_reads 156 = .ok (.bipush 105, 2) := by decide +kernel
theorem dX13_reads_158 : decode cX13_reads 158 = .ok (.if_icmp .eq 9, 3) := by decide +kernel
theorem dX13_reads_161 : decode cX13_reads 161 = .ok (.iload_n 2, 1) := by decide +kernel
theorem dX13_reads_162 : decode cX13_reads 162 = .ok (.bipush 97, 2) := by decide +kernel
theorem dX13_reads_164 : decode cX13_reads 164 = .ok (.if_icmp .ne 9, 3) := by decide +kernel
theorem dX13_reads_167 : decode cX13_reads 167 = .ok (.aload_n 0, 1) := by decide +kernel
theorem dX13_reads_168 : decode cX13_reads 168 = .ok (.iload_n 1, 1) := by decide +kernel
theorem dX13_reads_169 : decode cX13_reads 169 = .ok (.invokevirtual 633, 3) := by decide +kernel
theorem dX13_reads_172 : decode cX13_reads 172 = .ok (.ireturn, 1) := by decide +kernel
theorem dX13_reads_173 : decode cX13_reads 173 = .ok (.iload_n 2, 1) := by decide +kernel
theorem dX13_reads_174 : decode cX13_reads 174 = .ok (.bipush 103, 2) := by decide +kernel
theorem dX13_reads_176 : decode cX13_reads 176 = .ok (.if_icmp .eq 9, 3) := by decide +kernel
theorem dX13_reads_179 : decode cX13_reads 179 = .ok (.iload_n 2, 1) := by decide +kernel
theorem dX13_reads_180 : decode cX13_reads 180 = .ok (.bipush 122, 2) := by decide +kernel
theorem dX13_reads_182 : decode cX13_reads 182 = .ok (.if_icmp .ne 46, 3) := by decide +kernel
theorem dX13_reads_185 : decode cX13_reads 185 = .ok (.iload_n 1, 1) := by decide +kernel
theorem dX13_reads_186 : decode cX13_reads 186 = .ok (.iconst 1, 1) := by decide +kernel
theorem dX13_reads_187 : decode cX13_reads 187 = .ok (.iadd, 1) := by decide +kernel
theorem dX13_reads_188 : decode cX13_reads 188 = .ok (.aload_n 0, 1) := by decide +kernel
theorem dX13_reads_189 : decode cX13_reads 189 = .ok (.getfield 609, 3) := by decide +kernel
theorem dX13_reads_192 : decode cX13_reads 192 = .ok (.if_icmp .ne 5, 3) := by decide +kernel
theorem dX13_reads_195 : decode cX13_reads 195 = .ok (.iconst 0, 1) := by decide +kernel
theorem dX13_reads_196 : decode cX13_reads 196 = .ok (.ireturn, 1) := by decide +kernel
theorem dX13_reads_197 : decode cX13_reads 197 = .ok (.aload_n 0, 1) := by decide +kernel
theorem dX13_reads_198 : decode cX13_reads 198 = .ok (.iload_n 2, 1) := by decide +kernel
theorem dX13_reads_199 : decode cX13_reads 199 = .ok (.bipush 103, 2) := by decide +kernel
theorem dX13_reads_201 : decode cX13_reads 201 = .ok (.if_icmp .ne 9, 3) := by decide +kernel
theorem dX13_reads_204 : decode cX13_reads 204 = .ok (.sipush 256, 3) := by decide +kernel
theorem dX13_reads_207 : decode cX13_reads 207 = .ok (.goto 6, 3) := by decide +kernel
theorem dX13_reads_210 : decode cX13_reads 210 = .ok (.sipush 512, 3) := by decide +kernel
theorem dX13_reads_213 : decode cX13_reads 213 = .ok (.aload_n 0, 1) := by decide +kernel
theorem dX13_reads_214 : decode cX13_reads 214 = .ok (.getfield 95, 3) := by decide +kernel
theorem dX13_reads_217 : decode cX13_reads 217 = .ok (.iload_n 1, 1) := by decide +kernel
theorem dX13_reads_218 : decode cX13_reads 218 = .ok (.iconst 1, 1) := by decide +kernel
theorem dX13_reads_219 : decode cX13_reads 219 = .ok (.iadd, 1) := by decide +kernel
theorem dX13_reads_220 : decode cX13_reads 220 = .ok (.iaload, 1) := by decide +kernel
theorem dX13_reads_221 : decode cX13_reads 221 = .ok (.iadd, 1) := by decide +kernel
theorem dX13_reads_222 : decode cX13_reads 222 = .ok (.putfield 615, 3) := by decide +kernel
theorem dX13_reads_225 : decode cX13_reads 225 = .ok (.iinc 1 1, 3) := by decide +kernel
theorem dX13_reads_228 : decode cX13_reads 228 = .ok (.iinc 1 1, 3) := by decide +kernel
theorem dX13_reads_231 : decode cX13_reads 231 = .ok (.aload_n 0, 1) := by decide +kernel
theorem dX13_reads_232 : decode cX13_reads 232 = .ok (.getfield 466, 3) := by decide +kernel
theorem dX13_reads_235 : decode cX13_reads 235 = .ok (.ifCond .ne 63, 3) := by decide +kernel
theorem dX13_reads_238 : decode cX13_reads 238 = .ok (.aload_n 0, 1) := by decide +kernel
theorem dX13_reads_239 : decode cX13_reads 239 = .ok (.getfield 615, 3) := by decide +kernel
theorem dX13_reads_242 : decode cX13_reads 242 = .ok (.invokestatic 603, 3) := by decide +kernel
theorem dX13_reads_245 : decode cX13_reads 245 = .ok (.ifCond .eq 53, 3) := by decide +kernel
theorem dX13_reads_248 : decode cX13_reads 248 = .ok (.aload_n 0, 1) := by decide +kernel
theorem dX13_reads_249 : decode cX13_reads 249 = .ok (.aload_n 0, 1) := by decide +kernel
theorem dX13_reads_250 : decode cX13_reads 250 = .ok (.getfield 615, 3) := by decide +kernel
theorem dX13_reads_253 : decode cX13_reads 253 = .ok (.putfield 630, 3) := by decide +kernel
theorem dX13_reads_256 : decode cX13_reads 256 = .ok (.aload_n 0, 1) := by decide +kernel
theorem dX13_reads_257 : decode cX13_reads 257 = .ok (.iload_n 1, 1) := by decide +kernel
theorem dX13_reads_258 : decode cX13_reads 258 = .ok (.putfield 660, 3) := by decide +kernel
theorem dX13_reads_261 : decode cX13_reads 261 = .ok (.aload_n 0, 1) := by decide +kernel
theorem dX13_reads_262 : decode cX13_reads 262 = .ok (.iload_n 1, 1) := by decide +kernel
theorem dX13_reads_263 : decode cX13_reads 263 = .ok (.invokevirtual 651, 3) := by decide +kernel
theorem dX13_reads_266 : decode cX13_reads 266 = .ok (.istore_n 1, 1) := by decide +kernel
theorem dX13_reads_267 : decode cX13_reads 267 = .ok (.aload_n 0, 1) := by decide +kernel
theorem dX13_reads_268 : decode cX13_reads 268 = .ok (.aload_n 0, 1) := by decide +kernel
theorem dX13_reads_269 : decode cX13_reads 269 = .ok (.getfield 606, 3) := by decide +kernel
theorem dX13_reads_272 : decode cX13_reads 272 = .ok (.putfield 645, 3) := by decide +kernel
theorem dX13_reads_275 : decode cX13_reads 275 = .ok (.aload_n 0, 1) := by decide +kernel
theorem dX13_reads_276 : decode cX13_reads 276 = .ok (.iload_n 1, 1) := by decide +kernel
theorem dX13_reads_277 : decode cX13_reads 277 = .ok (.putfield 663, 3) := by decide +kernel
theorem dX13_reads_280 : decode cX13_reads 280 = .ok (.iload_n 1, 1) := by decide +kernel
theorem dX13_reads_281 : decode cX13_reads 281 = .ok (.aload_n 0, 1) := by decide +kernel
theorem dX13_reads_282 : decode cX13_reads 282 = .ok (.getfield 609, 3) := by decide +kernel
theorem dX13_reads_285 : decode cX13_reads 285 = .ok (.if_icmp .ne 7, 3) := by decide +kernel
theorem dX13_reads_288 : decode cX13_reads 288 = .ok (.iconst 0, 1) := by decide +kernel
theorem dX13_reads_289 : decode cX13_reads 289 = .ok (.goto 8, 3) := by decide +kernel
theorem dX13_reads_292 : decode cX13_reads 292 = .ok (.aload_n 0, 1) := by decide +kernel
theorem dX13_reads_293 : decode cX13_reads 293 = .ok (.iload_n 1, 1) := by decide +kernel
theorem dX13_reads_294 : decode cX13_reads 294 = .ok (.invokevirtual 666, 3) := by decide +kernel
theorem dX13_reads_297 : decode cX13_reads 297 = .ok (.ireturn, 1) := by decide +kernel
theorem dX13_reads_298 : decode cX13_reads 298 = .ok (.aload_n 0, 1) := by decide +kernel
theorem dX13_reads_299 : decode cX13_reads 299 = .ok (.aload_n 0, 1) := by decide +kernel
theorem dX13_reads_300 : decode cX13_reads 300 = .ok (.getfield 615, 3) := by decide +kernel
theorem dX13_reads_303 : decode cX13_reads 303 = .ok (.invokevirtual 669, 3) := by decide +kernel
theorem dX13_reads_306 : decode cX13_reads 306 = .ok (.ifCond .eq 5, 3) := by decide +kernel
theorem dX13_reads_309 : decode cX13_reads 309 = .ok (.iconst 2, 1) := by decide +kernel
theorem dX13_reads_310 : decode cX13_reads 310 = .ok (.ireturn, 1) := by decide +kernel
theorem dX13_reads_311 : decode cX13_reads 311 = .ok (.aload_n 0, 1) := by decide +kernel
theorem dX13_reads_312 : decode cX13_reads 312 = .ok (.getfield 615, 3) := by decide +kernel
theorem dX13_reads_315 : decode cX13_reads 315 = .ok (.invokestatic 636, 3) := by decide +kernel
theorem dX13_reads_318 : decode cX13_reads 318 = .ok (.ifCond .ne 46, 3) := by decide +kernel
theorem dX13_reads_321 : decode cX13_reads 321 = .ok (.aload_n 0, 1) := by decide +kernel
theorem dX13_reads_322 : decode cX13_reads 322 = .ok (.getfield 615, 3) := by decide +kernel
theorem dX13_reads_325 : decode cX13_reads 325 = .ok (.bipush 114, 2) := by decide +kernel
theorem dX13_reads_327 : decode cX13_reads 327 = .ok (.if_icmp .eq 37, 3) := by decide +kernel
theorem dX13_reads_330 : decode cX13_reads 330 = .ok (.aload_n 0, 1) := by decide +kernel
theorem dX13_reads_331 : decode cX13_reads 331 = .ok (.getfield 466, 3) := by decide +kernel
theorem dX13_reads_334 : decode cX13_reads 334 = .ok (.ifCond .ne 60, 3) := by decide +kernel
theorem dX13_reads_337 : decode cX13_reads 337 = .ok (.aload_n 0, 1) := by decide +kernel
theorem dX13_reads_338 : decode cX13_reads 338 = .ok (.getfield 615, 3) := by decide +kernel
theorem dX13_reads_341 : decode cX13_reads 341 = .ok (.bipush 109, 2) := by decide +kernel
theorem dX13_reads_343 : decode cX13_reads 343 = .ok (.if_icmp .eq 21, 3) := by decide +kernel
theorem dX13_reads_346 : decode cX13_reads 346 = .ok (.aload_n 0, 1) := by decide +kernel
theorem dX13_reads_347 : decode cX13_reads 347 = .ok (.getfield 615, 3) := by decide +kernel
theorem dX13_reads_350 : decode cX13_reads 350 = .ok (.bipush 113, 2) := by decide +kernel
theorem dX13_reads_352 : decode cX13_reads 352 = .ok (.if_icmp .eq 12, 3) := by decide +kernel
theorem dX13_reads_355 : decode cX13_reads 355 = .ok (.aload_n 0, 1) := by decide +kernel
theorem dX13_reads_356 : decode cX13_reads 356 = .ok (.getfield 615, 3) := by decide +kernel
theorem dX13_reads_359 : decode cX13_reads 359 = .ok (.bipush 64, 2) := by decide +kernel
theorem dX13_reads_361 : decode cX13_reads 361 = .ok (.if_icmp .ne 33, 3) := by decide +kernel
theorem dX13_reads_364 : decode cX13_reads 364 = .ok (.aload_n 0, 1) := by decide +kernel
theorem dX13_reads_365 : decode cX13_reads 365 = .ok (.getfield 615, 3) := by decide +kernel
theorem dX13_reads_368 : decode cX13_reads 368 = .ok (.invokestatic 636, 3) := by decide +kernel
theorem dX13_reads_371 : decode cX13_reads 371 = .ok (.ifCond .eq 17, 3) := by decide +kernel
theorem dX13_reads_374 : decode cX13_reads 374 = .ok (.aload_n 0, 1) := by decide +kernel
theorem dX13_reads_375 : decode cX13_reads 375 = .ok (.getfield 615, 3) := by decide +kernel
theorem dX13_reads_378 : decode cX13_reads 378 = .ok (.invokestatic 597, 3) := by decide +kernel
theorem dX13_reads_381 : decode cX13_reads 381 = .ok (.ifCond .ne 7, 3) := by decide +kernel
theorem dX13_reads_384 : decode cX13_reads 384 = .ok (.iconst 2, 1) := by decide +kernel
theorem dX13_reads_385 : decode cX13_reads 385 = .ok (.goto 8, 3) := by decide +kernel
theorem dX13_reads_388 : decode cX13_reads 388 = .ok (.aload_n 0, 1) := by decide +kernel
theorem dX13_reads_389 : decode cX13_reads 389 = .ok (.iload_n 1, 1) := by decide +kernel
theorem dX13_reads_390 : decode cX13_reads 390 = .ok (.invokevirtual 639, 3) := by decide +kernel
theorem dX13_reads_393 : decode cX13_reads 393 = .ok (.ireturn, 1) := by decide +kernel
theorem dX13_reads_394 : decode cX13_reads 394 = .ok (.iconst 1, 1) := by decide +kernel
theorem dX13_reads_395 : decode cX13_reads 395 = .ok (.ireturn, 1) := by decide +kernel
theorem dX13_isServing_0 : decode cX13_isServing 0 = .ok (.aload_n 0, 1) := by decide +kernel
theorem dX13_isServing_1 : decode cX13_isServing 1 = .ok (.getfield 672, 3) := by decide +kernel
theorem dX13_isServing_4 : decode cX13_isServing 4 = .ok (.ifCond .le 22, 3) := by decide +kernel
theorem dX13_isServing_7 : decode cX13_isServing 7 = .ok (.aload_n 0, 1) := by decide +kernel
theorem dX13_isServing_8 : decode cX13_isServing 8 = .ok (.getfield 123, 3) := by decide +kernel
theorem dX13_isServing_11 : decode cX13_isServing 11 = .ok (.aload_n 0, 1) := by decide +kernel
theorem dX13_isServing_12 : decode cX13_isServing 12 = .ok (.getfield 672, 3) := by decide +kernel
theorem dX13_isServing_15 : decode cX13_isServing 15 = .ok (.iconst 1, 1) := by decide +kernel
theorem dX13_isServing_16 : decode cX13_isServing 16 = .ok (.isub, 1) := by decide +kernel
theorem dX13_isServing_17 : decode cX13_isServing 17 = .ok (.iaload, 1) := by decide +kernel
theorem dX13_isServing_18 : decode cX13_isServing 18 = .ok (.iconst 5, 1) := by decide +kernel
theorem dX13_isServing_19 : decode cX13_isServing 19 = .ok (.if_icmp .ne 7, 3) := by decide +kernel
theorem dX13_isServing_22 : decode cX13_isServing 22 = .ok (.iconst 1, 1) := by decide +kernel
theorem dX13_isServing_23 : decode cX13_isServing 23 = .ok (.goto 4, 3) := by decide +kernel
theorem dX13_isServing_26 : decode cX13_isServing 26 = .ok (.iconst 0, 1) := by decide +kernel
theorem dX13_isServing_27 : decode cX13_isServing 27 = .ok (.ireturn, 1) := by decide +kernel
theorem dX13_isPlaying_0 : decode cX13_isPlaying 0 = .ok (.aload_n 0, 1) := by decide +kernel
theorem dX13_isPlaying_1 : decode cX13_isPlaying 1 = .ok (.getfield 672, 3) := by decide +kernel
theorem dX13_isPlaying_4 : decode cX13_isPlaying 4 = .ok (.ifCond .le 7, 3) := by decide +kernel
theorem dX13_isPlaying_7 : decode cX13_isPlaying 7 = .ok (.iconst 1, 1) := by decide +kernel
theorem dX13_isPlaying_8 : decode cX13_isPlaying 8 = .ok (.goto 4, 3) := by decide +kernel
theorem dX13_isPlaying_11 : decode cX13_isPlaying 11 = .ok (.iconst 0, 1) := by decide +kernel
theorem dX13_isPlaying_12 : decode cX13_isPlaying 12 = .ok (.ireturn, 1) := by decide +kernel
theorem dX13_playings_0 : decode cX13_playings 0 = .ok (.iconst 0, 1) := by decide +kernel
theorem dX13_playings_1 : decode cX13_playings 1 = .ok (.istore_n 1, 1) := by decide +kernel
theorem dX13_playings_2 : decode cX13_playings 2 = .ok (.iconst 0, 1) := by decide +kernel
theorem dX13_playings_3 : decode cX13_playings 3 = .ok (.istore_n 2, 1) := by decide +kernel
theorem dX13_playings_4 : decode cX13_playings 4 = .ok (.iload_n 2, 1) := by decide +kernel
theorem dX13_playings_5 : decode cX13_playings 5 = .ok (.aload_n 0, 1) := by decide +kernel
theorem dX13_playings_6 : decode cX13_playings 6 = .ok (.getfield 672, 3) := by decide +kernel
theorem dX13_playings_9 : decode cX13_playings 9 = .ok (.if_icmp .ge 47, 3) := by decide +kernel
theorem dX13_playings_12 : decode cX13_playings 12 = .ok (.iload_n 1, 1) := by decide +kernel
theorem dX13_playings_13 : decode cX13_playings 13 = .ok (.aload_n 0, 1) := by decide +kernel
theorem dX13_playings_14 : decode cX13_playings 14 = .ok (.getfield 123, 3) := by decide +kernel
theorem dX13_playings_17 : decode cX13_playings 17 = .ok (.iload_n 2, 1) := by decide +kernel
theorem dX13_playings_18 : decode cX13_playings 18 = .ok (.iaload, 1) := by decide +kernel
theorem dX13_playings_19 : decode cX13_playings 19 = .ok (.iconst 1, 1) := by decide +kernel
theorem dX13_playings_20 : decode cX13_playings 20 = .ok (.if_icmp .eq 23, 3) := by decide +kernel
theorem dX13_playings_23 : decode cX13_playings 23 = .ok (.aload_n 0, 1) := by decide +kernel
theorem dX13_playings_24 : decode cX13_playings 24 = .ok (.getfield 123, 3) := by decide +kernel
theorem dX13_playings_27 : decode cX13_playings 27 = .ok (.iload_n 2, 1) := by decide +kernel
theorem dX13_playings_28 : decode cX13_playings 28 = .ok (.iaload, 1) := by decide +kernel
theorem dX13_playings_29 : decode cX13_playings 29 = .ok (.iconst 2, 1) := by decide +kernel
theorem dX13_playings_30 : decode cX13_playings 30 = .ok (.if_icmp .eq 13, 3) := by decide +kernel
theorem dX13_playings_33 : decode cX13_playings 33 = .ok (.aload_n 0, 1) := by decide +kernel
theorem dX13_playings_34 : decode cX13_playings 34 = .ok (.getfield 123, 3) := by decide +kernel
theorem dX13_playings_37 : decode cX13_playings 37 = .ok (.iload_n 2, 1) := by decide +kernel
theorem dX13_playings_38 : decode cX13_playings 38 = .ok (.iaload, 1) := by decide +kernel
theorem dX13_playings_39 : decode cX13_playings 39 = .ok (.iconst 3, 1) := by decide +kernel
theorem dX13_playings_40 : decode cX13_playings 40 = .ok (.if_icmp .ne 7, 3) := by decide +kernel
theorem dX13_playings_43 : decode cX13_playings 43 = .ok (.iconst 1, 1) := by decide +kernel
theorem dX13_playings_44 : decode cX13_playings 44 = .ok (.goto 4, 3) := by decide +kernel
theorem dX13_playings_47 : decode cX13_playings 47 = .ok (.iconst 0, 1) := by decide +kernel
theorem dX13_playings_48 : decode cX13_playings 48 = .ok (.iadd, 1) := by decide +kernel
theorem dX13_playings_49 : decode cX13_playings 49 = .ok (.istore_n 1, 1) := by decide +kernel
theorem dX13_playings_50 : decode cX13_playings 50 = .ok (.iinc 2 1, 3) := by decide +kernel
theorem dX13_playings_53 : decode cX13_playings 53 = .ok (.goto (-49), 3) := by decide +kernel
theorem dX13_playings_56 : decode cX13_playings 56 = .ok (.iload_n 1, 1) := by decide +kernel
theorem dX13_playings_57 : decode cX13_playings 57 = .ok (.ireturn, 1) := by decide +kernel
theorem dX13_begins_0 : decode cX13_begins 0 = .ok (.aload_n 0, 1) := by decide +kernel
theorem dX13_begins_1 : decode cX13_begins 1 = .ok (.getfield 123, 3) := by decide +kernel
theorem dX13_begins_4 : decode cX13_begins 4 = .ok (.aload_n 0, 1) := by decide +kernel
theorem dX13_begins_5 : decode cX13_begins 5 = .ok (.getfield 672, 3) := by decide +kernel
theorem dX13_begins_8 : decode cX13_begins 8 = .ok (.iload_n 1, 1) := by decide +kernel
theorem dX13_begins_9 : decode cX13_begins 9 = .ok (.iastore, 1) := by decide +kernel
theorem dX13_begins_10 : decode cX13_begins 10 = .ok (.aload_n 0, 1) := by decide +kernel
theorem dX13_begins_11 : decode cX13_begins 11 = .ok (.getfield 126, 3) := by decide +kernel
theorem dX13_begins_14 : decode cX13_begins 14 = .ok (.aload_n 0, 1) := by decide +kernel
theorem dX13_begins_15 : decode cX13_begins 15 = .ok (.getfield 672, 3) := by decide +kernel
theorem dX13_begins_18 : decode cX13_begins 18 = .ok (.aload_n 0, 1) := by decide +kernel
theorem dX13_begins_19 : decode cX13_begins 19 = .ok (.getfield 672, 3) := by decide +kernel
theorem dX13_begins_22 : decode cX13_begins 22 = .ok (.ifCond .ne 7, 3) := by decide +kernel
theorem dX13_begins_25 : decode cX13_begins 25 = .ok (.iconst 0, 1) := by decide +kernel
theorem dX13_begins_26 : decode cX13_begins 26 = .ok (.goto 14, 3) := by decide +kernel
theorem dX13_begins_29 : decode cX13_begins 29 = .ok (.aload_n 0, 1) := by decide +kernel
theorem dX13_begins_30 : decode cX13_begins 30 = .ok (.getfield 129, 3) := by decide +kernel
theorem dX13_begins_33 : decode cX13_begins 33 = .ok (.aload_n 0, 1) := by decide +kernel
theorem dX13_begins_34 : decode cX13_begins 34 = .ok (.getfield 672, 3) := by decide +kernel
theorem dX13_begins_37 : decode cX13_begins 37 = .ok (.iconst 1, 1) := by decide +kernel
theorem dX13_begins_38 : decode cX13_begins 38 = .ok (.isub, 1) := by decide +kernel
theorem dX13_begins_39 : decode cX13_begins 39 = .ok (.iaload, 1) := by decide +kernel
theorem dX13_begins_40 : decode cX13_begins 40 = .ok (.iastore, 1) := by decide +kernel
theorem dX13_begins_41 : decode cX13_begins 41 = .ok (.aload_n 0, 1) := by decide +kernel
theorem dX13_begins_42 : decode cX13_begins 42 = .ok (.getfield 129, 3) := by decide +kernel
theorem dX13_begins_45 : decode cX13_begins 45 = .ok (.aload_n 0, 1) := by decide +kernel
theorem dX13_begins_46 : decode cX13_begins 46 = .ok (.getfield 672, 3) := by decide +kernel
theorem dX13_begins_49 : decode cX13_begins 49 = .ok (.aload_n 0, 1) := by decide +kernel
theorem dX13_begins_50 : decode cX13_begins 50 = .ok (.getfield 126, 3) := by decide +kernel
theorem dX13_begins_53 : decode cX13_begins 53 = .ok (.aload_n 0, 1) := by decide +kernel
theorem dX13_begins_54 : decode cX13_begins 54 = .ok (.getfield 672, 3) := by decide +kernel
theorem dX13_begins_57 : decode cX13_begins 57 = .ok (.iaload, 1) := by decide +kernel
theorem dX13_begins_58 : decode cX13_begins 58 = .ok (.iastore, 1) := by decide +kernel
theorem dX13_begins_59 : decode cX13_begins 59 = .ok (.aload_n 0, 1) := by decide +kernel
theorem dX13_begins_60 : decode cX13_begins 60 = .ok (.getfield 132, 3) := by decide +kernel
theorem dX13_begins_63 : decode cX13_begins 63 = .ok (.aload_n 0, 1) := by decide +kernel
theorem dX13_begins_64 : decode cX13_begins 64 = .ok (.getfield 672, 3) := by decide +kernel
theorem dX13_begins_67 : decode cX13_begins 67 = .ok (.aload_n 0, 1) := by decide +kernel
theorem dX13_begins_68 : decode cX13_begins 68 = .ok (.getfield 126, 3) := by decide +kernel
theorem dX13_begins_71 : decode cX13_begins 71 = .ok (.aload_n 0, 1) := by decide +kernel
theorem dX13_begins_72 : decode cX13_begins 72 = .ok (.getfield 672, 3) := by decide +kernel
theorem dX13_begins_75 : decode cX13_begins 75 = .ok (.iaload, 1) := by decide +kernel
theorem dX13_begins_76 : decode cX13_begins 76 = .ok (.iastore, 1) := by decide +kernel
theorem dX13_begins_77 : decode cX13_begins 77 = .ok (.aload_n 0, 1) := by decide +kernel
theorem dX13_begins_78 : decode cX13_begins 78 = .ok (.getfield 135, 3) := by decide +kernel
theorem dX13_begins_81 : decode cX13_begins 81 = .ok (.aload_n 0, 1) := by decide +kernel
theorem dX13_begins_82 : decode cX13_begins 82 = .ok (.getfield 672, 3) := by decide +kernel
theorem dX13_begins_85 : decode cX13_begins 85 = .ok (.iload_n 2, 1) := by decide +kernel
theorem dX13_begins_86 : decode cX13_begins 86 = .ok (.iastore, 1) := by decide +kernel
theorem dX13_begins_87 : decode cX13_begins 87 = .ok (.aload_n 0, 1) := by decide +kernel
theorem dX13_begins_88 : decode cX13_begins 88 = .ok (.getfield 138, 3) := by decide +kernel
theorem dX13_begins_91 : decode cX13_begins 91 = .ok (.aload_n 0, 1) := by decide +kernel
theorem dX13_begins_92 : decode cX13_begins 92 = .ok (.getfield 672, 3) := by decide +kernel
theorem dX13_begins_95 : decode cX13_begins 95 = .ok (.iconst (-1), 1) := by decide +kernel
theorem dX13_begins_96 : decode cX13_begins 96 = .ok (.iastore, 1) := by decide +kernel
theorem dX13_begins_97 : decode cX13_begins 97 = .ok (.aload_n 0, 1) := by decide +kernel
theorem dX13_begins_98 : decode cX13_begins 98 = .ok (.getfield 141, 3) := by decide +kernel
theorem dX13_begins_101 : decode cX13_begins 101 = .ok (.aload_n 0, 1) := by decide +kernel
theorem dX13_begins_102 : decode cX13_begins 102 = .ok (.getfield 672, 3) := by decide +kernel
theorem dX13_begins_105 : decode cX13_begins 105 = .ok (.iconst 0, 1) := by decide +kernel
theorem dX13_begins_106 : decode cX13_begins 106 = .ok (.iastore, 1) := by decide +kernel
theorem dX13_begins_107 : decode cX13_begins 107 = .ok (.bipush 41, 2) := by decide +kernel
theorem dX13_begins_109 : decode cX13_begins 109 = .ok (.aload_n 0, 1) := by decide +kernel
theorem dX13_begins_110 : decode cX13_begins 110 = .ok (.getfield 672, 3) := by decide +kernel
theorem dX13_begins_113 : decode cX13_begins 113 = .ok (.imul, 1) := by decide +kernel
theorem dX13_begins_114 : decode cX13_begins 114 = .ok (.istore_n 3, 1) := by decide +kernel
theorem dX13_begins_115 : decode cX13_begins 115 = .ok (.iload_n 3, 1) := by decide +kernel
theorem dX13_begins_116 : decode cX13_begins 116 = .ok (.bipush 41, 2) := by decide +kernel
theorem dX13_begins_118 : decode cX13_begins 118 = .ok (.aload_n 0, 1) := by decide +kernel
theorem dX13_begins_119 : decode cX13_begins 119 = .ok (.getfield 672, 3) := by decide +kernel
theorem dX13_begins_122 : decode cX13_begins 122 = .ok (.iconst 1, 1) := by decide +kernel
theorem dX13_begins_123 : decode cX13_begins 123 = .ok (.iadd, 1) := by decide +kernel
theorem dX13_begins_124 : decode cX13_begins 124 = .ok (.imul, 1) := by decide +kernel
theorem dX13_begins_125 : decode cX13_begins 125 = .ok (.if_icmp .ge 16, 3) := by decide +kernel
theorem dX13_begins_128 : decode cX13_begins 128 = .ok (.aload_n 0, 1) := by decide +kernel
theorem dX13_begins_129 : decode cX13_begins 129 = .ok (.getfield 148, 3) := by decide +kernel
theorem dX13_begins_132 : decode cX13_begins 132 = .ok (.iload_n 3, 1) := by decide +kernel
theorem dX13_begins_133 : decode cX13_begins 133 = .ok (.iconst (-1), 1) := by decide +kernel
theorem dX13_begins_134 : decode cX13_begins 134 = .ok (.iastore, 1) := by decide +kernel
theorem dX13_begins_135 : decode cX13_begins 135 = .ok (.iinc 3 1, 3) := by decide +kernel
theorem dX13_begins_138 : decode cX13_begins 138 = .ok (.goto (-23), 3) := by decide +kernel
theorem dX13_begins_141 : decode cX13_begins 141 = .ok (.aload_n 0, 1) := by decide +kernel
theorem dX13_begins_142 : decode cX13_begins 142 = .ok (.dup, 1) := by decide +kernel
theorem dX13_begins_143 : decode cX13_begins 143 = .ok (.getfield 672, 3) := by decide +kernel
theorem dX13_begins_146 : decode cX13_begins 146 = .ok (.iconst 1, 1) := by decide +kernel
theorem dX13_begins_147 : decode cX13_begins 147 = .ok (.iadd, 1) := by decide +kernel
theorem dX13_begins_148 : decode cX13_begins 148 = .ok (.putfield 672, 3) := by decide +kernel
theorem dX13_begins_151 : decode cX13_begins 151 = .ok (.return_, 1) := by decide +kernel
theorem dX13_heaps_0 : decode cX13_heaps 0 = .ok (.aload_n 0, 1) := by decide +kernel
theorem dX13_heaps_1 : decode cX13_heaps 1 = .ok (.getfield 145, 3) := by decide +kernel
theorem dX13_heaps_4 : decode cX13_heaps 4 = .ok (.aload_n 0, 1) := by decide +kernel
theorem dX13_heaps_5 : decode cX13_heaps 5 = .ok (.getfield 129, 3) := by decide +kernel
theorem dX13_heaps_8 : decode cX13_heaps 8 = .ok (.aload_n 0, 1) := by decide +kernel
theorem dX13_heaps_9 : decode cX13_heaps 9 = .ok (.getfield 672, 3) := by decide +kernel
theorem dX13_heaps_12 : decode cX13_heaps 12 = .ok (.iconst 1, 1) := by decide +kernel
theorem dX13_heaps_13 : decode cX13_heaps 13 = .ok (.isub, 1) := by decide +kernel
theorem dX13_heaps_14 : decode cX13_heaps 14 = .ok (.iaload, 1) := by decide +kernel
theorem dX13_heaps_15 : decode cX13_heaps 15 = .ok (.iload_n 1, 1) := by decide +kernel
theorem dX13_heaps_16 : decode cX13_heaps 16 = .ok (.iastore, 1) := by decide +kernel
theorem dX13_heaps_17 : decode cX13_heaps 17 = .ok (.aload_n 0, 1) := by decide +kernel
theorem dX13_heaps_18 : decode cX13_heaps 18 = .ok (.getfield 129, 3) := by decide +kernel
theorem dX13_heaps_21 : decode cX13_heaps 21 = .ok (.aload_n 0, 1) := by decide +kernel
theorem dX13_heaps_22 : decode cX13_heaps 22 = .ok (.getfield 672, 3) := by decide +kernel
theorem dX13_heaps_25 : decode cX13_heaps 25 = .ok (.iconst 1, 1) := by decide +kernel
theorem dX13_heaps_26 : decode cX13_heaps 26 = .ok (.isub, 1) := by decide +kernel
theorem dX13_heaps_27 : decode cX13_heaps 27 = .ok (.dup2, 1) := by decide +kernel
theorem dX13_heaps_28 : decode cX13_heaps 28 = .ok (.iaload, 1) := by decide +kernel
theorem dX13_heaps_29 : decode cX13_heaps 29 = .ok (.iconst 1, 1) := by decide +kernel
theorem dX13_heaps_30 : decode cX13_heaps 30 = .ok (.iadd, 1) := by decide +kernel
theorem dX13_heaps_31 : decode cX13_heaps 31 = .ok (.iastore, 1) := by decide +kernel
theorem dX13_heaps_32 : decode cX13_heaps 32 = .ok (.return_, 1) := by decide +kernel
theorem dX13_isFar_0 : decode cX13_isFar 0 = .ok (.iload_n 1, 1) := by decide +kernel
theorem dX13_isFar_1 : decode cX13_isFar 1 = .ok (.bipush 71, 2) := by decide +kernel
theorem dX13_isFar_3 : decode cX13_isFar 3 = .ok (.if_icmp .eq 58, 3) := by decide +kernel
theorem dX13_isFar_6 : decode cX13_isFar 6 = .ok (.iload_n 1, 1) := by decide +kernel
theorem dX13_isFar_7 : decode cX13_isFar 7 = .ok (.sipush 359, 3) := by decide +kernel
theorem dX13_isFar_10 : decode cX13_isFar 10 = .ok (.if_icmp .eq 51, 3) := by decide +kernel
theorem dX13_isFar_13 : decode cX13_isFar 13 = .ok (.iload_n 1, 1) := by decide +kernel
theorem dX13_isFar_14 : decode cX13_isFar 14 = .ok (.bipush 47, 2) := by decide +kernel
theorem dX13_isFar_16 : decode cX13_isFar 16 = .ok (.if_icmp .eq 45, 3) := by decide +kernel
theorem dX13_isFar_19 : decode cX13_isFar 19 = .ok (.iload_n 1, 1) := by decide +kernel
theorem dX13_isFar_20 : decode cX13_isFar 20 = .ok (.bipush 110, 2) := by decide +kernel
theorem dX13_isFar_22 : decode cX13_isFar 22 = .ok (.if_icmp .eq 39, 3) := by decide +kernel
theorem dX13_isFar_25 : decode cX13_isFar 25 = .ok (.iload_n 1, 1) := by decide +kernel
theorem dX13_isFar_26 : decode cX13_isFar 26 = .ok (.bipush 78, 2) := by decide +kernel
theorem dX13_isFar_28 : decode cX13_isFar 28 = .ok (.if_icmp .eq 33, 3) := by decide +kernel
theorem dX13_isFar_31 : decode cX13_isFar 31 = .ok (.iload_n 1, 1) := by decide +kernel
theorem dX13_isFar_32 : decode cX13_isFar 32 = .ok (.bipush 39, 2) := by decide +kernel
theorem dX13_isFar_34 : decode cX13_isFar 34 = .ok (.if_icmp .eq 27, 3) := by decide +kernel
theorem dX13_isFar_37 : decode cX13_isFar 37 = .ok (.iload_n 1, 1) := by decide +kernel
theorem dX13_isFar_38 : decode cX13_isFar 38 = .ok (.bipush 96, 2) := by decide +kernel
theorem dX13_isFar_40 : decode cX13_isFar 40 = .ok (.if_icmp .eq 21, 3) := by decide +kernel
theorem dX13_isFar_43 : decode cX13_isFar 43 = .ok (.iload_n 1, 1) := by decide +kernel
theorem dX13_isFar_44 : decode cX13_isFar 44 = .ok (.bipush 37, 2) := by decide +kernel
theorem dX13_isFar_46 : decode cX13_isFar 46 = .ok (.if_icmp .eq 15, 3) := by decide +kernel
theorem dX13_isFar_49 : decode cX13_isFar 49 = .ok (.iload_n 1, 1) := by decide +kernel
theorem dX13_isFar_50 : decode cX13_isFar 50 = .ok (.bipush 123, 2) := by decide +kernel
theorem dX13_isFar_52 : decode cX13_isFar 52 = .ok (.if_icmp .eq 9, 3) := by decide +kernel
theorem dX13_isFar_55 : decode cX13_isFar 55 = .ok (.iload_n 1, 1) := by decide +kernel
theorem dX13_isFar_56 : decode cX13_isFar 56 = .ok (.bipush 125, 2) := by decide +kernel
theorem dX13_isFar_58 : decode cX13_isFar 58 = .ok (.if_icmp .ne 7, 3) := by decide +kernel
theorem dX13_isFar_61 : decode cX13_isFar 61 = .ok (.iconst 1, 1) := by decide +kernel
theorem dX13_isFar_62 : decode cX13_isFar 62 = .ok (.goto 4, 3) := by decide +kernel
theorem dX13_isFar_65 : decode cX13_isFar 65 = .ok (.iconst 0, 1) := by decide +kernel
theorem dX13_isFar_66 : decode cX13_isFar 66 = .ok (.ireturn, 1) := by decide +kernel
theorem dX13_forgets_0 : decode cX13_forgets 0 = .ok (.aload_n 0, 1) := by decide +kernel
theorem dX13_forgets_1 : decode cX13_forgets 1 = .ok (.iconst 0, 1) := by decide +kernel
theorem dX13_forgets_2 : decode cX13_forgets 2 = .ok (.putfield 609, 3) := by decide +kernel
theorem dX13_forgets_5 : decode cX13_forgets 5 = .ok (.aload_n 0, 1) := by decide +kernel
theorem dX13_forgets_6 : decode cX13_forgets 6 = .ok (.iconst 0, 1) := by decide +kernel
theorem dX13_forgets_7 : decode cX13_forgets 7 = .ok (.putfield 675, 3) := by decide +kernel
theorem dX13_forgets_10 : decode cX13_forgets 10 = .ok (.return_, 1) := by decide +kernel
theorem dX13_fails_0 : decode cX13_fails 0 = .ok (.aload_n 0, 1) := by decide +kernel
theorem dX13_fails_1 : decode cX13_fails 1 = .ok (.invokevirtual 678, 3) := by decide +kernel
theorem dX13_fails_4 : decode cX13_fails 4 = .ok (.aload_n 0, 1) := by decide +kernel
theorem dX13_fails_5 : decode cX13_fails 5 = .ok (.invokevirtual 247, 3) := by decide +kernel
theorem dX13_fails_8 : decode cX13_fails 8 = .ok (.ifCond .eq 31, 3) := by decide +kernel
theorem dX13_fails_11 : decode cX13_fails 11 = .ok (.aload_n 0, 1) := by decide +kernel
theorem dX13_fails_12 : decode cX13_fails 12 = .ok (.getfield 132, 3) := by decide +kernel
theorem dX13_fails_15 : decode cX13_fails 15 = .ok (.aload_n 0, 1) := by decide +kernel
theorem dX13_fails_16 : decode cX13_fails 16 = .ok (.getfield 672, 3) := by decide +kernel
theorem dX13_fails_19 : decode cX13_fails 19 = .ok (.iconst 1, 1) := by decide +kernel
theorem dX13_fails_20 : decode cX13_fails 20 = .ok (.isub, 1) := by decide +kernel
theorem dX13_fails_21 : decode cX13_fails 21 = .ok (.aload_n 0, 1) := by decide +kernel
theorem dX13_fails_22 : decode cX13_fails 22 = .ok (.getfield 129, 3) := by decide +kernel
theorem dX13_fails_25 : decode cX13_fails 25 = .ok (.aload_n 0, 1) := by decide +kernel
theorem dX13_fails_26 : decode cX13_fails 26 = .ok (.getfield 672, 3) := by decide +kernel
theorem dX13_fails_29 : decode cX13_fails 29 = .ok (.iconst 1, 1) := by decide +kernel
theorem dX13_fails_30 : decode cX13_fails 30 = .ok (.isub, 1) := by decide +kernel
theorem dX13_fails_31 : decode cX13_fails 31 = .ok (.iaload, 1) := by decide +kernel
theorem dX13_fails_32 : decode cX13_fails 32 = .ok (.iastore, 1) := by decide +kernel
theorem dX13_fails_33 : decode cX13_fails 33 = .ok (.aload_n 0, 1) := by decide +kernel
theorem dX13_fails_34 : decode cX13_fails 34 = .ok (.iconst 1, 1) := by decide +kernel
theorem dX13_fails_35 : decode cX13_fails 35 = .ok (.putfield 681, 3) := by decide +kernel
theorem dX13_fails_38 : decode cX13_fails 38 = .ok (.return_, 1) := by decide +kernel
theorem dX13_fails_39 : decode cX13_fails 39 = .ok (.aload_n 0, 1) := by decide +kernel
theorem dX13_fails_40 : decode cX13_fails 40 = .ok (.dup, 1) := by decide +kernel
theorem dX13_fails_41 : decode cX13_fails 41 = .ok (.getfield 684, 3) := by decide +kernel
theorem dX13_fails_44 : decode cX13_fails 44 = .ok (.iconst 1, 1) := by decide +kernel
theorem dX13_fails_45 : decode cX13_fails 45 = .ok (.iadd, 1) := by decide +kernel
theorem dX13_fails_46 : decode cX13_fails 46 = .ok (.putfield 684, 3) := by decide +kernel
theorem dX13_fails_49 : decode cX13_fails 49 = .ok (.aload_n 0, 1) := by decide +kernel
theorem dX13_fails_50 : decode cX13_fails 50 = .ok (.iconst 0, 1) := by decide +kernel
theorem dX13_fails_51 : decode cX13_fails 51 = .ok (.putfield 672, 3) := by decide +kernel
theorem dX13_fails_54 : decode cX13_fails 54 = .ok (.aload_n 0, 1) := by decide +kernel
theorem dX13_fails_55 : decode cX13_fails 55 = .ok (.invokevirtual 687, 3) := by decide +kernel
theorem dX13_fails_58 : decode cX13_fails 58 = .ok (.return_, 1) := by decide +kernel
theorem dX13_settles_0 : decode cX13_settles 0 = .ok (.aload_n 0, 1) := by decide +kernel
theorem dX13_settles_1 : decode cX13_settles 1 = .ok (.getfield 466, 3) := by decide +kernel
theorem dX13_settles_4 : decode cX13_settles 4 = .ok (.iconst 1, 1) := by decide +kernel
theorem dX13_settles_5 : decode cX13_settles 5 = .ok (.if_icmp .eq 50, 3) := by decide +kernel
theorem dX13_settles_8 : decode cX13_settles 8 = .ok (.aload_n 0, 1) := by decide +kernel
theorem dX13_settles_9 : decode cX13_settles 9 = .ok (.aload_n 0, 1) := by decide +kernel
theorem dX13_settles_10 : decode cX13_settles 10 = .ok (.aload_n 0, 1) := by decide +kernel
theorem dX13_settles_11 : decode cX13_settles 11 = .ok (.getfield 213, 3) := by decide +kernel
theorem dX13_settles_14 : decode cX13_settles 14 = .ok (.aload_n 0, 1) := by decide +kernel
theorem dX13_settles_15 : decode cX13_settles 15 = .ok (.getfield 13, 3) := by decide +kernel
theorem dX13_settles_18 : decode cX13_settles 18 = .ok (.iconst 1, 1) := by decide +kernel
theorem dX13_settles_19 : decode cX13_settles 19 = .ok (.isub, 1) := by decide +kernel
theorem dX13_settles_20 : decode cX13_settles 20 = .ok (.invokestatic 257, 3) := by decide +kernel
theorem dX13_settles_23 : decode cX13_settles 23 = .ok (.invokevirtual 346, 3) := by decide +kernel
theorem dX13_settles_26 : decode cX13_settles 26 = .ok (.putfield 213, 3) := by decide +kernel
theorem dX13_settles_29 : decode cX13_settles 29 = .ok (.aload_n 0, 1) := by decide +kernel
theorem dX13_settles_30 : decode cX13_settles 30 = .ok (.iconst 0, 1) := by decide +kernel
theorem dX13_settles_31 : decode cX13_settles 31 = .ok (.aload_n 0, 1) := by decide +kernel
theorem dX13_settles_32 : decode cX13_settles 32 = .ok (.getfield 216, 3) := by decide +kernel
theorem dX13_settles_35 : decode cX13_settles 35 = .ok (.aload_n 0, 1) := by decide +kernel
theorem dX13_settles_36 : decode cX13_settles 36 = .ok (.getfield 17, 3) := by decide +kernel
theorem dX13_settles_39 : decode cX13_settles 39 = .ok (.aload_n 0, 1) := by decide +kernel
theorem dX13_settles_40 : decode cX13_settles 40 = .ok (.getfield 213, 3) := by decide +kernel
theorem dX13_settles_43 : decode cX13_settles 43 = .ok (.iaload, 1) := by decide +kernel
theorem dX13_settles_44 : decode cX13_settles 44 = .ok (.iconst 1, 1) := by decide +kernel
theorem dX13_settles_45 : decode cX13_settles 45 = .ok (.isub, 1) := by decide +kernel
theorem dX13_settles_46 : decode cX13_settles 46 = .ok (.invokestatic 257, 3) := by decide +kernel
theorem dX13_settles_49 : decode cX13_settles 49 = .ok (.invokestatic 210, 3) := by decide +kernel
theorem dX13_settles_52 : decode cX13_settles 52 = .ok (.putfield 216, 3) := by decide +kernel
theorem dX13_settles_55 : decode cX13_settles 55 = .ok (.return_, 1) := by decide +kernel
theorem dX13_copiesBase_0 : decode cX13_copiesBase 0 = .ok (.aload_n 0, 1) := by decide +kernel
theorem dX13_copiesBase_1 : decode cX13_copiesBase 1 = .ok (.aload_n 0, 1) := by decide +kernel
theorem dX13_copiesBase_2 : decode cX13_copiesBase 2 = .ok (.getfield 13, 3) := by decide +kernel
theorem dX13_copiesBase_5 : decode cX13_copiesBase 5 = .ok (.putfield 102, 3) := by decide +kernel
theorem dX13_copiesBase_8 : decode cX13_copiesBase 8 = .ok (.iconst 0, 1) := by decide +kernel
theorem dX13_copiesBase_9 : decode cX13_copiesBase 9 = .ok (.istore_n 1, 1) := by decide +kernel
theorem dX13_copiesBase_10 : decode cX13_copiesBase 10 = .ok (.iload_n 1, 1) := by decide +kernel
theorem dX13_copiesBase_11 : decode cX13_copiesBase 11 = .ok (.aload_n 0, 1) := by decide +kernel
theorem dX13_copiesBase_12 : decode cX13_copiesBase 12 = .ok (.getfield 13, 3) := by decide +kernel
theorem dX13_copiesBase_15 : decode cX13_copiesBase 15 = .ok (.if_icmp .ge 56, 3) := by decide +kernel
theorem dX13_copiesBase_18 : decode cX13_copiesBase 18 = .ok (.aload_n 0, 1) := by decide +kernel
theorem dX13_copiesBase_19 : decode cX13_copiesBase 19 = .ok (.getfield 105, 3) := by decide +kernel
theorem dX13_copiesBase_22 : decode cX13_copiesBase 22 = .ok (.iload_n 1, 1) := by decide +kernel
theorem dX13_copiesBase_23 : decode cX13_copiesBase 23 = .ok (.aload_n 0, 1) := by decide +kernel
theorem dX13_copiesBase_24 : decode cX13_copiesBase 24 = .ok (.getfield 17, 3) := by decide +kernel
theorem dX13_copiesBase_27 : decode cX13_copiesBase 27 = .ok (.iload_n 1, 1) := by decide +kernel
theorem dX13_copiesBase_28 : decode cX13_copiesBase 28 = .ok (.iaload, 1) := by decide +kernel
theorem dX13_copiesBase_29 : decode cX13_copiesBase 29 = .ok (.iastore, 1) := by decide +kernel
theorem dX13_copiesBase_30 : decode cX13_copiesBase 30 = .ok (.iconst 0, 1) := by decide +kernel
theorem dX13_copiesBase_31 : decode cX13_copiesBase 31 = .ok (.istore_n 2, 1) := by decide +kernel
theorem dX13_copiesBase_32 : decode cX13_copiesBase 32 = .ok (.iload_n 2, 1) := by decide +kernel
theorem dX13_copiesBase_33 : decode cX13_copiesBase 33 = .ok (.aload_n 0, 1) := by decide +kernel
theorem dX13_copiesBase_34 : decode cX13_copiesBase 34 = .ok (.getfield 17, 3) := by decide +kernel
theorem dX13_copiesBase_37 : decode cX13_copiesBase 37 = .ok (.iload_n 1, 1) := by decide +kernel
theorem dX13_copiesBase_38 : decode cX13_copiesBase 38 = .ok (.iaload, 1) := by decide +kernel
theorem dX13_copiesBase_39 : decode cX13_copiesBase 39 = .ok (.if_icmp .ge 26, 3) := by decide +kernel
theorem dX13_copiesBase_42 : decode cX13_copiesBase 42 = .ok (.aload_n 0, 1) := by decide +kernel
theorem dX13_copiesBase_43 : decode cX13_copiesBase 43 = .ok (.getfield 108, 3) := by decide +kernel
theorem dX13_copiesBase_46 : decode cX13_copiesBase 46 = .ok (.bipush 60, 2) := by decide +kernel
theorem dX13_copiesBase_48 : decode cX13_copiesBase 48 = .ok (.iload_n 1, 1) := by decide +kernel
theorem dX13_copiesBase_49 : decode cX13_copiesBase 49 = .ok (.imul, 1) := by decide +kernel
theorem dX13_copiesBase_50 : decode cX13_copiesBase 50 = .ok (.iload_n 2, 1) := by decide +kernel
theorem dX13_copiesBase_51 : decode cX13_copiesBase 51 = .ok (.iadd, 1) := by decide +kernel
theorem dX13_copiesBase_52 : decode cX13_copiesBase 52 = .ok (.aload_n 0, 1) := by decide +kernel
theorem dX13_copiesBase_53 : decode cX13_copiesBase 53 = .ok (.iload_n 1, 1) := by decide +kernel
theorem dX13_copiesBase_54 : decode cX13_copiesBase 54 = .ok (.iload_n 2, 1) := by decide +kernel
theorem dX13_copiesBase_55 : decode cX13_copiesBase 55 = .ok (.invokevirtual 206, 3) := by decide +kernel
theorem dX13_copiesBase_58 : decode cX13_copiesBase 58 = .ok (.iastore, 1) := by decide +kernel
theorem dX13_copiesBase_59 : decode cX13_copiesBase 59 = .ok (.iinc 2 1, 3) := by decide +kernel
theorem dX13_copiesBase_62 : decode cX13_copiesBase 62 = .ok (.goto (-30), 3) := by decide +kernel
theorem dX13_copiesBase_65 : decode cX13_copiesBase 65 = .ok (.iinc 1 1, 3) := by decide +kernel
theorem dX13_copiesBase_68 : decode cX13_copiesBase 68 = .ok (.goto (-58), 3) := by decide +kernel
theorem dX13_copiesBase_71 : decode cX13_copiesBase 71 = .ok (.return_, 1) := by decide +kernel
theorem dX13_isChanged_0 : decode cX13_isChanged 0 = .ok (.aload_n 0, 1) := by decide +kernel
theorem dX13_isChanged_1 : decode cX13_isChanged 1 = .ok (.getfield 102, 3) := by decide +kernel
theorem dX13_isChanged_4 : decode cX13_isChanged 4 = .ok (.aload_n 0, 1) := by decide +kernel
theorem dX13_isChanged_5 : decode cX13_isChanged 5 = .ok (.getfield 13, 3) := by decide +kernel
theorem dX13_isChanged_8 : decode cX13_isChanged 8 = .ok (.if_icmp .ne 7, 3) := by decide +kernel
theorem dX13_isChanged_11 : decode cX13_isChanged 11 = .ok (.iconst 1, 1) := by decide +kernel
theorem dX13_isChanged_12 : decode cX13_isChanged 12 = .ok (.goto 4, 3) := by decide +kernel
theorem dX13_isChanged_15 : decode cX13_isChanged 15 = .ok (.iconst 0, 1) := by decide +kernel
theorem dX13_isChanged_16 : decode cX13_isChanged 16 = .ok (.istore_n 1, 1) := by decide +kernel
theorem dX13_isChanged_17 : decode cX13_isChanged 17 = .ok (.iconst 0, 1) := by decide +kernel
theorem dX13_isChanged_18 : decode cX13_isChanged 18 = .ok (.istore_n 2, 1) := by decide +kernel
theorem dX13_isChanged_19 : decode cX13_isChanged 19 = .ok (.iload_n 2, 1) := by decide +kernel
theorem dX13_isChanged_20 : decode cX13_isChanged 20 = .ok (.aload_n 0, 1) := by decide +kernel
theorem dX13_isChanged_21 : decode cX13_isChanged 21 = .ok (.getfield 13, 3) := by decide +kernel
theorem dX13_isChanged_24 : decode cX13_isChanged 24 = .ok (.if_icmp .ge 82, 3) := by decide +kernel
theorem dX13_isChanged_27 : decode cX13_isChanged 27 = .ok (.iload_n 1, 1) := by decide +kernel
theorem dX13_isChanged_28 : decode cX13_isChanged 28 = .ok (.ifCond .eq 78, 3) := by decide +kernel
theorem dX13_isChanged_31 : decode cX13_isChanged 31 = .ok (.aload_n 0, 1) := by decide +kernel
theorem dX13_isChanged_32 : decode cX13_isChanged 32 = .ok (.getfield 105, 3) := by decide +kernel
theorem dX13_isChanged_35 : decode cX13_isChanged 35 = .ok (.iload_n 2, 1) := by decide +kernel
theorem dX13_isChanged_36 : decode cX13_isChanged 36 = .ok (.iaload, 1) := by decide +kernel
theorem dX13_isChanged_37 : decode cX13_isChanged 37 = .ok (.aload_n 0, 1) := by decide +kernel
theorem dX13_isChanged_38 : decode cX13_isChanged 38 = .ok (.getfield 17, 3) := by decide +kernel
theorem dX13_isChanged_41 : decode cX13_isChanged 41 = .ok (.iload_n 2, 1) := by decide +kernel
theorem dX13_isChanged_42 : decode cX13_isChanged 42 = .ok (.iaload, 1) := by decide +kernel
theorem dX13_isChanged_43 : decode cX13_isChanged 43 = .ok (.if_icmp .ne 7, 3) := by decide +kernel
theorem dX13_isChanged_46 : decode cX13_isChanged 46 = .ok (.iconst 1, 1) := by decide +kernel
theorem dX13_isChanged_47 : decode cX13_isChanged 47 = .ok (.goto 4, 3) := by decide +kernel
theorem dX13_isChanged_50 : decode cX13_isChanged 50 = .ok (.iconst 0, 1) := by decide +kernel
theorem dX13_isChanged_51 : decode cX13_isChanged 51 = .ok (.istore_n 1, 1) := by decide +kernel
theorem dX13_isChanged_52 : decode cX13_isChanged 52 = .ok (.iconst 0, 1) := by decide +kernel
theorem dX13_isChanged_53 : decode cX13_isChanged 53 = .ok (.istore_n 3, 1) := by decide +kernel
theorem dX13_isChanged_54 : decode cX13_isChanged 54 = .ok (.iload_n 3, 1) := by decide +kernel
theorem dX13_isChanged_55 : decode cX13_isChanged 55 = .ok (.aload_n 0, 1) := by decide +kernel
theorem dX13_isChanged_56 : decode cX13_isChanged 56 = .ok (.getfield 17, 3) := by decide +kernel
theorem dX13_isChanged_59 : decode cX13_isChanged 59 = .ok (.iload_n 2, 1) := by decide +kernel
theorem dX13_isChanged_60 : decode cX13_isChanged 60 = .ok (.iaload, 1) := by decide +kernel
theorem dX13_isChanged_61 : decode cX13_isChanged 61 = .ok (.if_icmp .ge 39, 3) := by decide +kernel
theorem dX13_isChanged_64 : decode cX13_isChanged 64 = .ok (.iload_n 1, 1) := by decide +kernel
theorem dX13_isChanged_65 : decode cX13_isChanged 65 = .ok (.ifCond .eq 35, 3) := by decide +kernel
theorem dX13_isChanged_68 : decode cX13_isChanged 68 = .ok (.aload_n 0, 1) := by decide +kernel
theorem dX13_isChanged_69 : decode cX13_isChanged 69 = .ok (.getfield 108, 3) := by decide +kernel
theorem dX13_isChanged_72 : decode cX13_isChanged 72 = .ok (.bipush 60, 2) := by decide +kernel
theorem dX13_isChanged_74 : decode cX13_isChanged 74 = .ok (.iload_n 2, 1) := by decide +kernel
theorem dX13_isChanged_75 : decode cX13_isChanged 75 = .ok (.imul, 1) := by decide +kernel
theorem dX13_isChanged_76 : decode cX13_isChanged 76 = .ok (.iload_n 3, 1) := by decide +kernel
theorem dX13_isChanged_77 : decode cX13_isChanged 77 = .ok (.iadd, 1) := by decide +kernel
theorem dX13_isChanged_78 : decode cX13_isChanged 78 = .ok (.iaload, 1) := by decide +kernel
theorem dX13_isChanged_79 : decode cX13_isChanged 79 = .ok (.aload_n 0, 1) := by decide +kernel
theorem dX13_isChanged_80 : decode cX13_isChanged 80 = .ok (.iload_n 2, 1) := by decide +kernel
theorem dX13_isChanged_81 : decode cX13_isChanged 81 = .ok (.iload_n 3, 1) := by decide +kernel
theorem dX13_isChanged_82 : decode cX13_isChanged 82 = .ok (.invokevirtual 206, 3) := by decide +kernel
theorem dX13_isChanged_85 : decode cX13_isChanged 85 = .ok (.if_icmp .ne 7, 3) := by decide +kernel
theorem dX13_isChanged_88 : decode cX13_isChanged 88 = .ok (.iconst 1, 1) := by decide +kernel
theorem dX13_isChanged_89 : decode cX13_isChanged 89 = .ok (.goto 4, 3) := by decide +kernel
theorem dX13_isChanged_92 : decode cX13_isChanged 92 = .ok (.iconst 0, 1) := by decide +kernel
theorem dX13_isChanged_93 : decode cX13_isChanged 93 = .ok (.istore_n 1, 1) := by decide +kernel
theorem dX13_isChanged_94 : decode cX13_isChanged 94 = .ok (.iinc 3 1, 3) := by decide +kernel
theorem dX13_isChanged_97 : decode cX13_isChanged 97 = .ok (.goto (-43), 3) := by decide +kernel
theorem dX13_isChanged_100 : decode cX13_isChanged 100 = .ok (.iinc 2 1, 3) := by decide +kernel
theorem dX13_isChanged_103 : decode cX13_isChanged 103 = .ok (.goto (-84), 3) := by decide +kernel
theorem dX13_isChanged_106 : decode cX13_isChanged 106 = .ok (.iload_n 1, 1) := by decide +kernel
theorem dX13_isChanged_107 : decode cX13_isChanged 107 = .ok (.ifCond .ne 7, 3) := by decide +kernel
theorem dX13_isChanged_110 : decode cX13_isChanged 110 = .ok (.iconst 1, 1) := by decide +kernel
theorem dX13_isChanged_111 : decode cX13_isChanged 111 = .ok (.goto 4, 3) := by decide +kernel
theorem dX13_isChanged_114 : decode cX13_isChanged 114 = .ok (.iconst 0, 1) := by decide +kernel
theorem dX13_isChanged_115 : decode cX13_isChanged 115 = .ok (.ireturn, 1) := by decide +kernel
theorem dX13_keepsChange_0 : decode cX13_keepsChange 0 = .ok (.aload_n 0, 1) := by decide +kernel
theorem dX13_keepsChange_1 : decode cX13_keepsChange 1 = .ok (.aload_n 0, 1) := by decide +kernel
theorem dX13_keepsChange_2 : decode cX13_keepsChange 2 = .ok (.getfield 690, 3) := by decide +kernel
theorem dX13_keepsChange_5 : decode cX13_keepsChange 5 = .ok (.sipush 8000, 3) := by decide +kernel
theorem dX13_keepsChange_8 : decode cX13_keepsChange 8 = .ok (.invokestatic 257, 3) := by decide +kernel
theorem dX13_keepsChange_11 : decode cX13_keepsChange 11 = .ok (.putfield 693, 3) := by decide +kernel
theorem dX13_keepsChange_14 : decode cX13_keepsChange 14 = .ok (.iconst 0, 1) := by decide +kernel
theorem dX13_keepsChange_15 : decode cX13_keepsChange 15 = .ok (.istore_n 1, 1) := by decide +kernel
theorem dX13_keepsChange_16 : decode cX13_keepsChange 16 = .ok (.iload_n 1, 1) := by decide +kernel
theorem dX13_keepsChange_17 : decode cX13_keepsChange 17 = .ok (.aload_n 0, 1) := by decide +kernel
theorem dX13_keepsChange_18 : decode cX13_keepsChange 18 = .ok (.getfield 693, 3) := by decide +kernel
theorem dX13_keepsChange_21 : decode cX13_keepsChange 21 = .ok (.if_icmp .ge 21, 3) := by decide +kernel
theorem dX13_keepsChange_24 : decode cX13_keepsChange 24 = .ok (.aload_n 0, 1) := by decide +kernel
theorem dX13_keepsChange_25 : decode cX13_keepsChange 25 = .ok (.getfield 111, 3) := by decide +kernel
theorem dX13_keepsChange_28 : decode cX13_keepsChange 28 = .ok (.iload_n 1, 1) := by decide +kernel
theorem dX13_keepsChange_29 : decode cX13_keepsChange 29 = .ok (.aload_n 0, 1) := by decide +kernel
theorem dX13_keepsChange_30 : decode cX13_keepsChange 30 = .ok (.getfield 99, 3) := by decide +kernel
theorem dX13_keepsChange_33 : decode cX13_keepsChange 33 = .ok (.iload_n 1, 1) := by decide +kernel
theorem dX13_keepsChange_34 : decode cX13_keepsChange 34 = .ok (.iaload, 1) := by decide +kernel
theorem dX13_keepsChange_35 : decode cX13_keepsChange 35 = .ok (.iastore, 1) := by decide +kernel
theorem dX13_keepsChange_36 : decode cX13_keepsChange 36 = .ok (.iinc 1 1, 3) := by decide +kernel
theorem dX13_keepsChange_39 : decode cX13_keepsChange 39 = .ok (.goto (-23), 3) := by decide +kernel
theorem dX13_keepsChange_42 : decode cX13_keepsChange 42 = .ok (.return_, 1) := by decide +kernel
theorem dX13_isServed_0 : decode cX13_isServed 0 = .ok (.iload_n 1, 1) := by decide +kernel
theorem dX13_isServed_1 : decode cX13_isServed 1 = .ok (.ifCond .ne 94, 3) := by decide +kernel
theorem dX13_isServed_4 : decode cX13_isServed 4 = .ok (.iload_n 2, 1) := by decide +kernel
theorem dX13_isServed_5 : decode cX13_isServed 5 = .ok (.invokestatic 636, 3) := by decide +kernel
theorem dX13_isServed_8 : decode cX13_isServed 8 = .ok (.ifCond .ne 87, 3) := by decide +kernel
theorem dX13_isServed_11 : decode cX13_isServed 11 = .ok (.iload_n 2, 1) := by decide +kernel
theorem dX13_isServed_12 : decode cX13_isServed 12 = .ok (.bipush 120, 2) := by decide +kernel
theorem dX13_isServed_14 : decode cX13_isServed 14 = .ok (.if_icmp .eq 81, 3) := by decide +kernel
theorem dX13_isServed_17 : decode cX13_isServed 17 = .ok (.iload_n 2, 1) := by decide +kernel
theorem dX13_isServed_18 : decode cX13_isServed 18 = .ok (.bipush 88, 2) := by decide +kernel
theorem dX13_isServed_20 : decode cX13_isServed 20 = .ok (.if_icmp .eq 75, 3) := by decide +kernel
theorem dX13_isServed_23 : decode cX13_isServed 23 = .ok (.iload_n 2, 1) := by decide +kernel
theorem dX13_isServed_24 : decode cX13_isServed 24 = .ok (.bipush 68, 2) := by decide +kernel
theorem dX13_isServed_26 : decode cX13_isServed 26 = .ok (.if_icmp .eq 69, 3) := by decide +kernel
theorem dX13_isServed_29 : decode cX13_isServed 29 = .ok (.iload_n 2, 1) := by decide +kernel
theorem dX13_isServed_30 : decode cX13_isServed 30 = .ok (.bipush 115, 2) := by decide +kernel
theorem dX13_isServed_32 : decode cX13_isServed 32 = .ok (.if_icmp .eq 63, 3) := by decide +kernel
theorem dX13_isServed_35 : decode cX13_isServed 35 = .ok (.iload_n 2, 1) := by decide +kernel
theorem dX13_isServed_36 : decode cX13_isServed 36 = .ok (.bipush 114, 2) := by decide +kernel
theorem dX13_isServed_38 : decode cX13_isServed 38 = .ok (.if_icmp .eq 57, 3) := by decide +kernel
theorem dX13_isServed_41 : decode cX13_isServed 41 = .ok (.iload_n 2, 1) := by decide +kernel
theorem dX13_isServed_42 : decode cX13_isServed 42 = .ok (.bipush 126, 2) := by decide +kernel
theorem dX13_isServed_44 : decode cX13_isServed 44 = .ok (.if_icmp .eq 51, 3) := by decide +kernel
theorem dX13_isServed_47 : decode cX13_isServed 47 = .ok (.iload_n 2, 1) := by decide +kernel
theorem dX13_isServed_48 : decode cX13_isServed 48 = .ok (.bipush 74, 2) := by decide +kernel
theorem dX13_isServed_50 : decode cX13_isServed 50 = .ok (.if_icmp .eq 45, 3) := by decide +kernel
theorem dX13_isServed_53 : decode cX13_isServed 53 = .ok (.iload_n 2, 1) := by decide +kernel
theorem dX13_isServed_54 : decode cX13_isServed 54 = .ok (.bipush 112, 2) := by decide +kernel
theorem dX13_isServed_56 : decode cX13_isServed 56 = .ok (.if_icmp .eq 39, 3) := by decide +kernel
theorem dX13_isServed_59 : decode cX13_isServed 59 = .ok (.iload_n 2, 1) := by decide +kernel
theorem dX13_isServed_60 : decode cX13_isServed 60 = .ok (.bipush 80, 2) := by decide +kernel
theorem dX13_isServed_62 : decode cX13_isServed 62 = .ok (.if_icmp .eq 33, 3) := by decide +kernel
theorem dX13_isServed_65 : decode cX13_isServed 65 = .ok (.iload_n 2, 1) := by decide +kernel
theorem dX13_isServed_66 : decode cX13_isServed 66 = .ok (.bipush 105, 2) := by decide +kernel
theorem dX13_isServed_68 : decode cX13_isServed 68 = .ok (.if_icmp .eq 27, 3) := by decide +kernel
theorem dX13_isServed_71 : decode cX13_isServed 71 = .ok (.iload_n 2, 1) := by decide +kernel
theorem dX13_isServed_72 : decode cX13_isServed 72 = .ok (.bipush 97, 2) := by decide +kernel
theorem dX13_isServed_74 : decode cX13_isServed 74 = .ok (.if_icmp .eq 21, 3) := by decide +kernel
theorem dX13_isServed_77 : decode cX13_isServed 77 = .ok (.iload_n 2, 1) := by decide +kernel
theorem dX13_isServed_78 : decode cX13_isServed 78 = .ok (.bipush 73, 2) := by decide +kernel
theorem dX13_isServed_80 : decode cX13_isServed 80 = .ok (.if_icmp .eq 15, 3) := by decide +kernel
theorem dX13_isServed_83 : decode cX13_isServed 83 = .ok (.iload_n 2, 1) := by decide +kernel
theorem dX13_isServed_84 : decode cX13_isServed 84 = .ok (.bipush 65, 2) := by decide +kernel
theorem dX13_isServed_86 : decode cX13_isServed 86 = .ok (.if_icmp .eq 9, 3) := by decide +kernel
theorem dX13_isServed_89 : decode cX13_isServed 89 = .ok (.iload_n 2, 1) := by decide +kernel
theorem dX13_isServed_90 : decode cX13_isServed 90 = .ok (.bipush 67, 2) := by decide +kernel
theorem dX13_isServed_92 : decode cX13_isServed 92 = .ok (.if_icmp .ne 7, 3) := by decide +kernel
theorem dX13_isServed_95 : decode cX13_isServed 95 = .ok (.iconst 1, 1) := by decide +kernel
theorem dX13_isServed_96 : decode cX13_isServed 96 = .ok (.goto 4, 3) := by decide +kernel
theorem dX13_isServed_99 : decode cX13_isServed 99 = .ok (.iconst 0, 1) := by decide +kernel
theorem dX13_isServed_100 : decode cX13_isServed 100 = .ok (.ireturn, 1) := by decide +kernel
theorem dX13_servesOthers_0 : decode cX13_servesOthers 0 = .ok (.aload_n 0, 1) := by decide +kernel
theorem dX13_servesOthers_1 : decode cX13_servesOthers 1 = .ok (.getfield 696, 3) := by decide +kernel
theorem dX13_servesOthers_4 : decode cX13_servesOthers 4 = .ok (.ifCond .eq 135, 3) := by decide +kernel
theorem dX13_servesOthers_7 : decode cX13_servesOthers 7 = .ok (.aload_n 0, 1) := by decide +kernel
theorem dX13_servesOthers_8 : decode cX13_servesOthers 8 = .ok (.getfield 244, 3) := by decide +kernel
theorem dX13_servesOthers_11 : decode cX13_servesOthers 11 = .ok (.ifCond .le 128, 3) := by decide +kernel
theorem dX13_servesOthers_14 : decode cX13_servesOthers 14 = .ok (.aload_n 0, 1) := by decide +kernel
theorem dX13_servesOthers_15 : decode cX13_servesOthers 15 = .ok (.iconst 5, 1) := by decide +kernel
theorem dX13_servesOthers_16 : decode cX13_servesOthers 16 = .ok (.iconst 1, 1) := by decide +kernel
theorem dX13_servesOthers_17 : decode cX13_servesOthers 17 = .ok (.invokevirtual 699, 3) := by decide +kernel
theorem dX13_servesOthers_20 : decode cX13_servesOthers 20 = .ok (.iconst 0, 1) := by decide +kernel
theorem dX13_servesOthers_21 : decode cX13_servesOthers 21 = .ok (.istore_n 1, 1) := by decide +kernel
theorem dX13_servesOthers_22 : decode cX13_servesOthers 22 = .ok (.iload_n 1, 1) := by decide +kernel
theorem dX13_servesOthers_23 : decode cX13_servesOthers 23 = .ok (.aload_n 0, 1) := by decide +kernel
theorem dX13_servesOthers_24 : decode cX13_servesOthers 24 = .ok (.getfield 690, 3) := by decide +kernel
theorem dX13_servesOthers_27 : decode cX13_servesOthers 27 = .ok (.if_icmp .ge 19, 3) := by decide +kernel
theorem dX13_servesOthers_30 : decode cX13_servesOthers 30 = .ok (.aload_n 0, 1) := by decide +kernel
theorem dX13_servesOthers_31 : decode cX13_servesOthers 31 = .ok (.aload_n 0, 1) := by decide +kernel
theorem dX13_servesOthers_32 : decode cX13_servesOthers 32 = .ok (.getfield 99, 3) := by decide +kernel
theorem dX13_servesOthers_35 : decode cX13_servesOthers 35 = .ok (.iload_n 1, 1) := by decide +kernel
theorem dX13_servesOthers_36 : decode cX13_servesOthers 36 = .ok (.iaload, 1) := by decide +kernel
theorem dX13_servesOthers_37 : decode cX13_servesOthers 37 = .ok (.invokevirtual 702, 3) := by decide +kernel
theorem dX13_servesOthers_40 : decode cX13_servesOthers 40 = .ok (.iinc 1 1, 3) := by decide +kernel
theorem dX13_servesOthers_43 : decode cX13_servesOthers 43 = .ok (.goto (-21), 3) := by decide +kernel
theorem dX13_servesOthers_46 : decode cX13_servesOthers 46 = .ok (.aload_n 0, 1) := by decide +kernel
theorem dX13_servesOthers_47 : decode cX13_servesOthers 47 = .ok (.getfield 138, 3) := by decide +kernel
theorem dX13_servesOthers_50 : decode cX13_servesOthers 50 = .ok (.aload_n 0, 1) := by decide +kernel
theorem dX13_servesOthers_51 : decode cX13_servesOthers 51 = .ok (.getfield 672, 3) := by decide +kernel
theorem dX13_servesOthers_54 : decode cX13_servesOthers 54 = .ok (.iconst 1, 1) := by decide +kernel
theorem dX13_servesOthers_55 : decode cX13_servesOthers 55 = .ok (.isub, 1) := by decide +kernel
theorem dX13_servesOthers_56 : decode cX13_servesOthers 56 = .ok (.aload_n 0, 1) := by decide +kernel
theorem dX13_servesOthers_57 : decode cX13_servesOthers 57 = .ok (.getfield 244, 3) := by decide +kernel
theorem dX13_servesOthers_60 : decode cX13_servesOthers 60 = .ok (.iastore, 1) := by decide +kernel
theorem dX13_servesOthers_61 : decode cX13_servesOthers 61 = .ok (.aload_n 0, 1) := by decide +kernel
theorem dX13_servesOthers_62 : decode cX13_servesOthers 62 = .ok (.getfield 132, 3) := by decide +kernel
theorem dX13_servesOthers_65 : decode cX13_servesOthers 65 = .ok (.aload_n 0, 1) := by decide +kernel
theorem dX13_servesOthers_66 : decode cX13_servesOthers 66 = .ok (.getfield 672, 3) := by decide +kernel
theorem dX13_servesOthers_69 : decode cX13_servesOthers 69 = .ok (.iconst 1, 1) := by decide +kernel
theorem dX13_servesOthers_70 : decode cX13_servesOthers 70 = .ok (.isub, 1) := by decide +kernel
theorem dX13_servesOthers_71 : decode cX13_servesOthers 71 = .ok (.aload_n 0, 1) := by decide +kernel
theorem dX13_servesOthers_72 : decode cX13_servesOthers 72 = .ok (.getfield 129, 3) := by decide +kernel
theorem dX13_servesOthers_75 : decode cX13_servesOthers 75 = .ok (.aload_n 0, 1) := by decide +kernel
theorem dX13_servesOthers_76 : decode cX13_servesOthers 76 = .ok (.getfield 672, 3) := by decide +kernel
theorem dX13_servesOthers_79 : decode cX13_servesOthers 79 = .ok (.iconst 1, 1) := by decide +kernel
theorem dX13_servesOthers_80 : decode cX13_servesOthers 80 = .ok (.isub, 1) := by decide +kernel
theorem dX13_servesOthers_81 : decode cX13_servesOthers 81 = .ok (.iaload, 1) := by decide +kernel
theorem dX13_servesOthers_82 : decode cX13_servesOthers 82 = .ok (.iastore, 1) := by decide +kernel
theorem dX13_servesOthers_83 : decode cX13_servesOthers 83 = .ok (.aload_n 0, 1) := by decide +kernel
theorem dX13_servesOthers_84 : decode cX13_servesOthers 84 = .ok (.getfield 141, 3) := by decide +kernel
theorem dX13_servesOthers_87 : decode cX13_servesOthers 87 = .ok (.aload_n 0, 1) := by decide +kernel
theorem dX13_servesOthers_88 : decode cX13_servesOthers 88 = .ok (.getfield 672, 3) := by decide +kernel
theorem dX13_servesOthers_91 : decode cX13_servesOthers 91 = .ok (.iconst 1, 1) := by decide +kernel
theorem dX13_servesOthers_92 : decode cX13_servesOthers 92 = .ok (.isub, 1) := by decide +kernel
theorem dX13_servesOthers_93 : decode cX13_servesOthers 93 = .ok (.aload_n 0, 1) := by decide +kernel
theorem dX13_servesOthers_94 : decode cX13_servesOthers 94 = .ok (.getfield 705, 3) := by decide +kernel
theorem dX13_servesOthers_97 : decode cX13_servesOthers 97 = .ok (.ifCond .eq 7, 3) := by decide +kernel
theorem dX13_servesOthers_100 : decode cX13_servesOthers 100 = .ok (.iconst 1, 1) := by decide +kernel
theorem dX13_servesOthers_101 : decode cX13_servesOthers 101 = .ok (.goto 4, 3) := by decide +kernel
theorem dX13_servesOthers_104 : decode cX13_servesOthers 104 = .ok (.iconst 0, 1) := by decide +kernel
theorem dX13_servesOthers_105 : decode cX13_servesOthers 105 = .ok (.iastore, 1) := by decide +kernel
theorem dX13_servesOthers_106 : decode cX13_servesOthers 106 = .ok (.aload_n 0, 1) := by decide +kernel
theorem dX13_servesOthers_107 : decode cX13_servesOthers 107 = .ok (.getfield 54, 3) := by decide +kernel
theorem dX13_servesOthers_110 : decode cX13_servesOthers 110 = .ok (.bipush 11, 2) := by decide +kernel
theorem dX13_servesOthers_112 : decode cX13_servesOthers 112 = .ok (.aload_n 0, 1) := by decide +kernel
theorem dX13_servesOthers_113 : decode cX13_servesOthers 113 = .ok (.getfield 213, 3) := by decide +kernel
theorem dX13_servesOthers_116 : decode cX13_servesOthers 116 = .ok (.iastore, 1) := by decide +kernel
theorem dX13_servesOthers_117 : decode cX13_servesOthers 117 = .ok (.aload_n 0, 1) := by decide +kernel
theorem dX13_servesOthers_118 : decode cX13_servesOthers 118 = .ok (.getfield 57, 3) := by decide +kernel
theorem dX13_servesOthers_121 : decode cX13_servesOthers 121 = .ok (.bipush 11, 2) := by decide +kernel
theorem dX13_servesOthers_123 : decode cX13_servesOthers 123 = .ok (.aload_n 0, 1) := by decide +kernel
theorem dX13_servesOthers_124 : decode cX13_servesOthers 124 = .ok (.getfield 216, 3) := by decide +kernel
theorem dX13_servesOthers_127 : decode cX13_servesOthers 127 = .ok (.iastore, 1) := by decide +kernel
theorem dX13_servesOthers_128 : decode cX13_servesOthers 128 = .ok (.aload_n 0, 1) := by decide +kernel
theorem dX13_servesOthers_129 : decode cX13_servesOthers 129 = .ok (.aload_n 0, 1) := by decide +kernel
theorem dX13_servesOthers_130 : decode cX13_servesOthers 130 = .ok (.getfield 219, 3) := by decide +kernel
theorem dX13_servesOthers_133 : decode cX13_servesOthers 133 = .ok (.putfield 708, 3) := by decide +kernel
theorem dX13_servesOthers_136 : decode cX13_servesOthers 136 = .ok (.goto 28, 3) := by decide +kernel
theorem dX13_servesOthers_139 : decode cX13_servesOthers 139 = .ok (.aload_n 0, 1) := by decide +kernel
theorem dX13_servesOthers_140 : decode cX13_servesOthers 140 = .ok (.getfield 711, 3) := by decide +kernel
theorem dX13_servesOthers_143 : decode cX13_servesOthers 143 = .ok (.ifCond .eq 21, 3) := by decide +kernel
theorem dX13_servesOthers_146 : decode cX13_servesOthers 146 = .ok (.aload_n 0, 1) := by decide +kernel
theorem dX13_servesOthers_147 : decode cX13_servesOthers 147 = .ok (.invokevirtual 714, 3) := by decide +kernel
theorem dX13_servesOthers_150 : decode cX13_servesOthers 150 = .ok (.ifCond .ne 10, 3) := by decide +kernel
theorem dX13_servesOthers_153 : decode cX13_servesOthers 153 = .ok (.aload_n 0, 1) := by decide +kernel
theorem dX13_servesOthers_154 : decode cX13_servesOthers 154 = .ok (.invokevirtual 717, 3) := by decide +kernel
theorem dX13_servesOthers_157 : decode cX13_servesOthers 157 = .ok (.ifCond .eq 7, 3) := by decide +kernel
theorem dX13_servesOthers_160 : decode cX13_servesOthers 160 = .ok (.aload_n 0, 1) := by decide +kernel
theorem dX13_servesOthers_161 : decode cX13_servesOthers 161 = .ok (.invokevirtual 720, 3) := by decide +kernel
theorem dX13_servesOthers_164 : decode cX13_servesOthers 164 = .ok (.return_, 1) := by decide +kernel
theorem dX13_isRepeating_0 : decode cX13_isRepeating 0 = .ok (.aload_n 0, 1) := by decide +kernel
theorem dX13_isRepeating_1 : decode cX13_isRepeating 1 = .ok (.getfield 672, 3) := by decide +kernel
theorem dX13_isRepeating_4 : decode cX13_isRepeating 4 = .ok (.ifCond .le 22, 3) := by decide +kernel
theorem dX13_isRepeating_7 : decode cX13_isRepeating 7 = .ok (.aload_n 0, 1) := by decide +kernel
theorem dX13_isRepeating_8 : decode cX13_isRepeating 8 = .ok (.getfield 123, 3) := by decide +kernel
theorem dX13_isRepeating_11 : decode cX13_isRepeating 11 = .ok (.aload_n 0, 1) := by decide +kernel
theorem dX13_isRepeating_12 : decode cX13_isRepeating 12 = .ok (.getfield 672, 3) := by decide +kernel
theorem dX13_isRepeating_15 : decode cX13_isRepeating 15 = .ok (.iconst 1, 1) := by decide +kernel
theorem dX13_isRepeating_16 : decode cX13_isRepeating 16 = .ok (.isub, 1) := by decide +kernel
theorem dX13_isRepeating_17 : decode cX13_isRepeating 17 = .ok (.iaload, 1) := by decide +kernel
theorem dX13_isRepeating_18 : decode cX13_isRepeating 18 = .ok (.iconst 2, 1) := by decide +kernel
theorem dX13_isRepeating_19 : decode cX13_isRepeating 19 = .ok (.if_icmp .ne 7, 3) := by decide +kernel
theorem dX13_isRepeating_22 : decode cX13_isRepeating 22 = .ok (.iconst 1, 1) := by decide +kernel
theorem dX13_isRepeating_23 : decode cX13_isRepeating 23 = .ok (.goto 4, 3) := by decide +kernel
theorem dX13_isRepeating_26 : decode cX13_isRepeating 26 = .ok (.iconst 0, 1) := by decide +kernel
theorem dX13_isRepeating_27 : decode cX13_isRepeating 27 = .ok (.ireturn, 1) := by decide +kernel
theorem dX13_ends_0 : decode cX13_ends 0 = .ok (.aload_n 0, 1) := by decide +kernel
theorem dX13_ends_1 : decode cX13_ends 1 = .ok (.getfield 615, 3) := by decide +kernel
theorem dX13_ends_4 : decode cX13_ends 4 = .ok (.istore_n 2, 1) := by decide +kernel
theorem dX13_ends_5 : decode cX13_ends 5 = .ok (.aload_n 0, 1) := by decide +kernel
theorem dX13_ends_6 : decode cX13_ends 6 = .ok (.getfield 630, 3) := by decide +kernel
theorem dX13_ends_9 : decode cX13_ends 9 = .ok (.ifCond .eq 7, 3) := by decide +kernel
theorem dX13_ends_12 : decode cX13_ends 12 = .ok (.iconst 1, 1) := by decide +kernel
theorem dX13_ends_13 : decode cX13_ends 13 = .ok (.goto 4, 3) := by decide +kernel
theorem dX13_ends_16 : decode cX13_ends 16 = .ok (.iconst 0, 1) := by decide +kernel
theorem dX13_ends_17 : decode cX13_ends 17 = .ok (.istore_n 3, 1) := by decide +kernel
theorem dX13_ends_18 : decode cX13_ends 18 = .ok (.aload_n 0, 1) := by decide +kernel
theorem dX13_ends_19 : decode cX13_ends 19 = .ok (.invokevirtual 723, 3) := by decide +kernel
theorem dX13_ends_22 : decode cX13_ends 22 = .ok (.aload_n 0, 1) := by decide +kernel
theorem dX13_ends_23 : decode cX13_ends 23 = .ok (.invokevirtual 247, 3) := by decide +kernel
theorem dX13_ends_26 : decode cX13_ends 26 = .ok (.ifCond .eq 8, 3) := by decide +kernel
theorem dX13_ends_29 : decode cX13_ends 29 = .ok (.aload_n 0, 1) := by decide +kernel
theorem dX13_ends_30 : decode cX13_ends 30 = .ok (.invokevirtual 678, 3) := by decide +kernel
theorem dX13_ends_33 : decode cX13_ends 33 = .ok (.return_, 1) := by decide +kernel
theorem dX13_ends_34 : decode cX13_ends 34 = .ok (.aload_n 0, 1) := by decide +kernel
theorem dX13_ends_35 : decode cX13_ends 35 = .ok (.aload_n 0, 1) := by decide +kernel
theorem dX13_ends_36 : decode cX13_ends 36 = .ok (.getfield 609, 3) := by decide +kernel
theorem dX13_ends_39 : decode cX13_ends 39 = .ok (.putfield 690, 3) := by decide +kernel
theorem dX13_ends_42 : decode cX13_ends 42 = .ok (.iconst 0, 1) := by decide +kernel
theorem dX13_ends_43 : decode cX13_ends 43 = .ok (.istore 4, 2) := by decide +kernel
theorem dX13_ends_45 : decode cX13_ends 45 = .ok (.iload 4, 2) := by decide +kernel
theorem dX13_ends_47 : decode cX13_ends 47 = .ok (.aload_n 0, 1) := by decide +kernel
theorem dX13_ends_48 : decode cX13_ends 48 = .ok (.getfield 609, 3) := by decide +kernel
theorem dX13_ends_51 : decode cX13_ends 51 = .ok (.if_icmp .ge 23, 3) := by decide +kernel
theorem dX13_ends_54 : decode cX13_ends 54 = .ok (.aload_n 0, 1) := by decide +kernel
theorem dX13_ends_55 : decode cX13_ends 55 = .ok (.getfield 99, 3) := by decide +kernel
theorem dX13_ends_58 : decode cX13_ends 58 = .ok (.iload 4, 2) := by decide +kernel
theorem dX13_ends_60 : decode cX13_ends 60 = .ok (.aload_n 0, 1) := by decide +kernel
theorem dX13_ends_61 : decode cX13_ends 61 = .ok (.getfield 95, 3) := by decide +kernel
theorem dX13_ends_64 : decode cX13_ends 64 = .ok (.iload 4, 2) := by decide +kernel
theorem dX13_ends_66 : decode cX13_ends 66 = .ok (.iaload, 1) := by decide +kernel
theorem dX13_ends_67 : decode cX13_ends 67 = .ok (.iastore, 1) := by decide +kernel
theorem dX13_ends_68 : decode cX13_ends 68 = .ok (.iinc 4 1, 3) := by decide +kernel
theorem dX13_ends_71 : decode cX13_ends 71 = .ok (.goto (-26), 3) := by decide +kernel
theorem dX13_ends_74 : decode cX13_ends 74 = .ok (.aload_n 0, 1) := by decide +kernel
theorem dX13_ends_75 : decode cX13_ends 75 = .ok (.invokevirtual 678, 3) := by decide +kernel
theorem dX13_ends_78 : decode cX13_ends 78 = .ok (.aload_n 0, 1) := by decide +kernel
theorem dX13_ends_79 : decode cX13_ends 79 = .ok (.iload_n 1, 1) := by decide +kernel
theorem dX13_ends_80 : decode cX13_ends 80 = .ok (.ifCond .eq 16, 3) := by decide +kernel
theorem dX13_ends_83 : decode cX13_ends 83 = .ok (.aload_n 0, 1) := by decide +kernel
theorem dX13_ends_84 : decode cX13_ends 84 = .ok (.iload_n 3, 1) := by decide +kernel
theorem dX13_ends_85 : decode cX13_ends 85 = .ok (.iload_n 2, 1) := by decide +kernel
theorem dX13_ends_86 : decode cX13_ends 86 = .ok (.invokevirtual 726, 3) := by decide +kernel
theorem dX13_ends_89 : decode cX13_ends 89 = .ok (.ifCond .eq 7, 3) := by decide +kernel
theorem dX13_ends_92 : decode cX13_ends 92 = .ok (.iconst 1, 1) := by decide +kernel
theorem dX13_ends_93 : decode cX13_ends 93 = .ok (.goto 4, 3) := by decide +kernel
theorem dX13_ends_96 : decode cX13_ends 96 = .ok (.iconst 0, 1) := by decide +kernel
theorem dX13_ends_97 : decode cX13_ends 97 = .ok (.putfield 696, 3) := by decide +kernel
theorem dX13_ends_100 : decode cX13_ends 100 = .ok (.iload_n 3, 1) := by decide +kernel
theorem dX13_ends_101 : decode cX13_ends 101 = .ok (.ifCond .ne 45, 3) := by decide +kernel
theorem dX13_ends_104 : decode cX13_ends 104 = .ok (.iload_n 2, 1) := by decide +kernel
theorem dX13_ends_105 : decode cX13_ends 105 = .ok (.bipush 117, 2) := by decide +kernel
theorem dX13_ends_107 : decode cX13_ends 107 = .ok (.if_icmp .eq 35, 3) := by decide +kernel
theorem dX13_ends_110 : decode cX13_ends 110 = .ok (.iload_n 2, 1) := by decide +kernel
theorem dX13_ends_111 : decode cX13_ends 111 = .ok (.bipush 18, 2) := by decide +kernel
theorem dX13_ends_113 : decode cX13_ends 113 = .ok (.if_icmp .eq 29, 3) := by decide +kernel
theorem dX13_ends_116 : decode cX13_ends 116 = .ok (.iload_n 2, 1) := by decide +kernel
theorem dX13_ends_117 : decode cX13_ends 117 = .ok (.sipush 301, 3) := by decide +kernel
theorem dX13_ends_120 : decode cX13_ends 120 = .ok (.if_icmp .eq 22, 3) := by decide +kernel
theorem dX13_ends_123 : decode cX13_ends 123 = .ok (.iload_n 2, 1) := by decide +kernel
theorem dX13_ends_124 : decode cX13_ends 124 = .ok (.sipush 299, 3) := by decide +kernel
theorem dX13_ends_127 : decode cX13_ends 127 = .ok (.if_icmp .eq 15, 3) := by decide +kernel
theorem dX13_ends_130 : decode cX13_ends 130 = .ok (.iload_n 2, 1) := by decide +kernel
theorem dX13_ends_131 : decode cX13_ends 131 = .ok (.bipush 46, 2) := by decide +kernel
theorem dX13_ends_133 : decode cX13_ends 133 = .ok (.if_icmp .eq 9, 3) := by decide +kernel
theorem dX13_ends_136 : decode cX13_ends 136 = .ok (.iload_n 2, 1) := by decide +kernel
theorem dX13_ends_137 : decode cX13_ends 137 = .ok (.bipush 64, 2) := by decide +kernel
theorem dX13_ends_139 : decode cX13_ends 139 = .ok (.if_icmp .ne 7, 3) := by decide +kernel
theorem dX13_ends_142 : decode cX13_ends 142 = .ok (.iconst 1, 1) := by decide +kernel
theorem dX13_ends_143 : decode cX13_ends 143 = .ok (.goto 4, 3) := by decide +kernel
theorem dX13_ends_146 : decode cX13_ends 146 = .ok (.iconst 0, 1) := by decide +kernel
theorem dX13_ends_147 : decode cX13_ends 147 = .ok (.istore 4, 2) := by decide +kernel
theorem dX13_ends_149 : decode cX13_ends 149 = .ok (.aload_n 0, 1) := by decide +kernel
theorem dX13_ends_150 : decode cX13_ends 150 = .ok (.iload_n 1, 1) := by decide +kernel
theorem dX13_ends_151 : decode cX13_ends 151 = .ok (.ifCond .eq 12, 3) := by decide +kernel
theorem dX13_ends_154 : decode cX13_ends 154 = .ok (.iload 4, 2) := by decide +kernel
theorem dX13_ends_156 : decode cX13_ends 156 = .ok (.ifCond .ne 7, 3) := by decide +kernel
theorem dX13_ends_159 : decode cX13_ends 159 = .ok (.iconst 1, 1) := by decide +kernel
theorem dX13_ends_160 : decode cX13_ends 160 = .ok (.goto 4, 3) := by decide +kernel
theorem dX13_ends_163 : decode cX13_ends 163 = .ok (.iconst 0, 1) := by decide +kernel
theorem dX13_ends_164 : decode cX13_ends 164 = .ok (.putfield 711, 3) := by decide +kernel
theorem dX13_ends_167 : decode cX13_ends 167 = .ok (.aload_n 0, 1) := by decide +kernel
theorem dX13_ends_168 : decode cX13_ends 168 = .ok (.getfield 696, 3) := by decide +kernel
theorem dX13_ends_171 : decode cX13_ends 171 = .ok (.ifCond .ne 19, 3) := by decide +kernel
theorem dX13_ends_174 : decode cX13_ends 174 = .ok (.iload_n 3, 1) := by decide +kernel
theorem dX13_ends_175 : decode cX13_ends 175 = .ok (.ifCond .ne 10, 3) := by decide +kernel
theorem dX13_ends_178 : decode cX13_ends 178 = .ok (.iload_n 2, 1) := by decide +kernel
theorem dX13_ends_179 : decode cX13_ends 179 = .ok (.sipush 365, 3) := by decide +kernel
theorem dX13_ends_182 : decode cX13_ends 182 = .ok (.if_icmp .eq 8, 3) := by decide +kernel
theorem dX13_ends_185 : decode cX13_ends 185 = .ok (.aload_n 0, 1) := by decide +kernel
theorem dX13_ends_186 : decode cX13_ends 186 = .ok (.iconst 0, 1) := by decide +kernel
theorem dX13_ends_187 : decode cX13_ends 187 = .ok (.putfield 244, 3) := by decide +kernel
theorem dX13_ends_190 : decode cX13_ends 190 = .ok (.aload_n 0, 1) := by decide +kernel
theorem dX13_ends_191 : decode cX13_ends 191 = .ok (.getfield 466, 3) := by decide +kernel
theorem dX13_ends_194 : decode cX13_ends 194 = .ok (.iconst 1, 1) := by decide +kernel
theorem dX13_ends_195 : decode cX13_ends 195 = .ok (.if_icmp .eq 7, 3) := by decide +kernel
theorem dX13_ends_198 : decode cX13_ends 198 = .ok (.aload_n 0, 1) := by decide +kernel
theorem dX13_ends_199 : decode cX13_ends 199 = .ok (.invokevirtual 728, 3) := by decide +kernel
theorem dX13_ends_202 : decode cX13_ends 202 = .ok (.return_, 1) := by decide +kernel
theorem dX13_keepsSeek_0 : decode cX13_keepsSeek 0 = .ok (.aload_n 0, 1) := by decide +kernel
theorem dX13_keepsSeek_1 : decode cX13_keepsSeek 1 = .ok (.getfield 609, 3) := by decide +kernel
theorem dX13_keepsSeek_4 : decode cX13_keepsSeek 4 = .ok (.iconst 1, 1) := by decide +kernel
theorem dX13_keepsSeek_5 : decode cX13_keepsSeek 5 = .ok (.isub, 1) := by decide +kernel
theorem dX13_keepsSeek_6 : decode cX13_keepsSeek 6 = .ok (.aload_n 0, 1) := by decide +kernel
theorem dX13_keepsSeek_7 : decode cX13_keepsSeek 7 = .ok (.getfield 627, 3) := by decide +kernel
theorem dX13_keepsSeek_10 : decode cX13_keepsSeek 10 = .ok (.isub, 1) := by decide +kernel
theorem dX13_keepsSeek_11 : decode cX13_keepsSeek 11 = .ok (.istore_n 1, 1) := by decide +kernel
theorem dX13_keepsSeek_12 : decode cX13_keepsSeek 12 = .ok (.aload_n 0, 1) := by decide +kernel
theorem dX13_keepsSeek_13 : decode cX13_keepsSeek 13 = .ok (.aload_n 0, 1) := by decide +kernel
theorem dX13_keepsSeek_14 : decode cX13_keepsSeek 14 = .ok (.getfield 324, 3) := by decide +kernel
theorem dX13_keepsSeek_17 : decode cX13_keepsSeek 17 = .ok (.putfield 731, 3) := by decide +kernel
theorem dX13_keepsSeek_20 : decode cX13_keepsSeek 20 = .ok (.iconst 0, 1) := by decide +kernel
theorem dX13_keepsSeek_21 : decode cX13_keepsSeek 21 = .ok (.istore_n 2, 1) := by decide +kernel
theorem dX13_keepsSeek_22 : decode cX13_keepsSeek 22 = .ok (.iload_n 2, 1) := by decide +kernel
theorem dX13_keepsSeek_23 : decode cX13_keepsSeek 23 = .ok (.bipush 61, 2) := by decide +kernel
theorem dX13_keepsSeek_25 : decode cX13_keepsSeek 25 = .ok (.if_icmp .ge 21, 3) := by decide +kernel
theorem dX13_keepsSeek_28 : decode cX13_keepsSeek 28 = .ok (.aload_n 0, 1) := by decide +kernel
theorem dX13_keepsSeek_29 : decode cX13_keepsSeek 29 = .ok (.getfield 92, 3) := by decide +kernel
theorem dX13_keepsSeek_32 : decode cX13_keepsSeek 32 = .ok (.iload_n 2, 1) := by decide +kernel
theorem dX13_keepsSeek_33 : decode cX13_keepsSeek 33 = .ok (.aload_n 0, 1) := by decide +kernel
theorem dX13_keepsSeek_34 : decode cX13_keepsSeek 34 = .ok (.getfield 89, 3) := by decide +kernel
theorem dX13_keepsSeek_37 : decode cX13_keepsSeek 37 = .ok (.iload_n 2, 1) := by decide +kernel
theorem dX13_keepsSeek_38 : decode cX13_keepsSeek 38 = .ok (.iaload, 1) := by decide +kernel
theorem dX13_keepsSeek_39 : decode cX13_keepsSeek 39 = .ok (.iastore, 1) := by decide +kernel
theorem dX13_keepsSeek_40 : decode cX13_keepsSeek 40 = .ok (.iinc 2 1, 3) := by decide +kernel
theorem dX13_keepsSeek_43 : decode cX13_keepsSeek 43 = .ok (.goto (-21), 3) := by decide +kernel
theorem dX13_keepsSeek_46 : decode cX13_keepsSeek 46 = .ok (.aload_n 0, 1) := by decide +kernel
theorem dX13_keepsSeek_47 : decode cX13_keepsSeek 47 = .ok (.iload_n 1, 1) := by decide +kernel
theorem dX13_keepsSeek_48 : decode cX13_keepsSeek 48 = .ok (.bipush 61, 2) := by decide +kernel
theorem dX13_keepsSeek_50 : decode cX13_keepsSeek 50 = .ok (.invokestatic 257, 3) := by decide +kernel
theorem dX13_keepsSeek_53 : decode cX13_keepsSeek 53 = .ok (.putfield 324, 3) := by decide +kernel
theorem dX13_keepsSeek_56 : decode cX13_keepsSeek 56 = .ok (.iconst 0, 1) := by decide +kernel
theorem dX13_keepsSeek_57 : decode cX13_keepsSeek 57 = .ok (.istore_n 2, 1) := by decide +kernel
theorem dX13_keepsSeek_58 : decode cX13_keepsSeek 58 = .ok (.iload_n 2, 1) := by decide +kernel
theorem dX13_keepsSeek_59 : decode cX13_keepsSeek 59 = .ok (.aload_n 0, 1) := by decide +kernel
theorem dX13_keepsSeek_60 : decode cX13_keepsSeek 60 = .ok (.getfield 324, 3) := by decide +kernel
theorem dX13_keepsSeek_63 : decode cX13_keepsSeek 63 = .ok (.if_icmp .ge 26, 3) := by decide +kernel
theorem dX13_keepsSeek_66 : decode cX13_keepsSeek 66 = .ok (.aload_n 0, 1) := by decide +kernel
theorem dX13_keepsSeek_67 : decode cX13_keepsSeek 67 = .ok (.getfield 89, 3) := by decide +kernel
theorem dX13_keepsSeek_70 : decode cX13_keepsSeek 70 = .ok (.iload_n 2, 1) := by decide +kernel
theorem dX13_keepsSeek_71 : decode cX13_keepsSeek 71 = .ok (.aload_n 0, 1) := by decide +kernel
theorem dX13_keepsSeek_72 : decode cX13_keepsSeek 72 = .ok (.getfield 95, 3) := by decide +kernel
theorem dX13_keepsSeek_75 : decode cX13_keepsSeek 75 = .ok (.aload_n 0, 1) := by decide +kernel
theorem dX13_keepsSeek_76 : decode cX13_keepsSeek 76 = .ok (.getfield 627, 3) := by decide +kernel
theorem dX13_keepsSeek_79 : decode cX13_keepsSeek 79 = .ok (.iload_n 2, 1) := by decide +kernel
theorem dX13_keepsSeek_80 : decode cX13_keepsSeek 80 = .ok (.iadd, 1) := by decide +kernel
theorem dX13_keepsSeek_81 : decode cX13_keepsSeek 81 = .ok (.iaload, 1) := by decide +kernel
theorem dX13_keepsSeek_82 : decode cX13_keepsSeek 82 = .ok (.iastore, 1) := by decide +kernel
theorem dX13_keepsSeek_83 : decode cX13_keepsSeek 83 = .ok (.iinc 2 1, 3) := by decide +kernel
theorem dX13_keepsSeek_86 : decode cX13_keepsSeek 86 = .ok (.goto (-28), 3) := by decide +kernel
theorem dX13_keepsSeek_89 : decode cX13_keepsSeek 89 = .ok (.return_, 1) := by decide +kernel
theorem dX13_restoresSeek_0 : decode cX13_restoresSeek 0 = .ok (.aload_n 0, 1) := by decide +kernel
theorem dX13_restoresSeek_1 : decode cX13_restoresSeek 1 = .ok (.aload_n 0, 1) := by decide +kernel
theorem dX13_restoresSeek_2 : decode cX13_restoresSeek 2 = .ok (.getfield 731, 3) := by decide +kernel
theorem dX13_restoresSeek_5 : decode cX13_restoresSeek 5 = .ok (.putfield 324, 3) := by decide +kernel
theorem dX13_restoresSeek_8 : decode cX13_restoresSeek 8 = .ok (.iconst 0, 1) := by decide +kernel
theorem dX13_restoresSeek_9 : decode cX13_restoresSeek 9 = .ok (.istore_n 1, 1) := by decide +kernel
theorem dX13_restoresSeek_10 : decode cX13_restoresSeek 10 = .ok (.iload_n 1, 1) := by decide +kernel
theorem dX13_restoresSeek_11 : decode cX13_restoresSeek 11 = .ok (.bipush 61, 2) := by decide +kernel
theorem dX13_restoresSeek_13 : decode cX13_restoresSeek 13 = .ok (.if_icmp .ge 21, 3) := by decide +kernel
theorem dX13_restoresSeek_16 : decode cX13_restoresSeek 16 = .ok (.aload_n 0, 1) := by decide +kernel
theorem dX13_restoresSeek_17 : decode cX13_restoresSeek 17 = .ok (.getfield 89, 3) := by decide +kernel
theorem dX13_restoresSeek_20 : decode cX13_restoresSeek 20 = .ok (.iload_n 1, 1) := by decide +kernel
theorem dX13_restoresSeek_21 : decode cX13_restoresSeek 21 = .ok (.aload_n 0, 1) := by decide +kernel
theorem dX13_restoresSeek_22 : decode cX13_restoresSeek 22 = .ok (.getfield 92, 3) := by decide +kernel
theorem dX13_restoresSeek_25 : decode cX13_restoresSeek 25 = .ok (.iload_n 1, 1) := by decide +kernel
theorem dX13_restoresSeek_26 : decode cX13_restoresSeek 26 = .ok (.iaload, 1) := by decide +kernel
theorem dX13_restoresSeek_27 : decode cX13_restoresSeek 27 = .ok (.iastore, 1) := by decide +kernel
theorem dX13_restoresSeek_28 : decode cX13_restoresSeek 28 = .ok (.iinc 1 1, 3) := by decide +kernel
theorem dX13_restoresSeek_31 : decode cX13_restoresSeek 31 = .ok (.goto (-21), 3) := by decide +kernel
theorem dX13_restoresSeek_34 : decode cX13_restoresSeek 34 = .ok (.return_, 1) := by decide +kernel
theorem dX13_goesMotion_0 : decode cX13_goesMotion 0 = .ok (.aload_n 0, 1) := by decide +kernel
theorem dX13_goesMotion_1 : decode cX13_goesMotion 1 = .ok (.getfield 213, 3) := by decide +kernel
theorem dX13_goesMotion_4 : decode cX13_goesMotion 4 = .ok (.istore_n 3, 1) := by decide +kernel
theorem dX13_goesMotion_5 : decode cX13_goesMotion 5 = .ok (.aload_n 0, 1) := by decide +kernel
theorem dX13_goesMotion_6 : decode cX13_goesMotion 6 = .ok (.getfield 216, 3) := by decide +kernel
theorem dX13_goesMotion_9 : decode cX13_goesMotion 9 = .ok (.istore 4, 2) := by decide +kernel
theorem dX13_goesMotion_11 : decode cX13_goesMotion 11 = .ok (.aload_n 0, 1) := by decide +kernel
theorem dX13_goesMotion_12 : decode cX13_goesMotion 12 = .ok (.aload_n 0, 1) := by decide +kernel
theorem dX13_goesMotion_13 : decode cX13_goesMotion 13 = .ok (.getfield 615, 3) := by decide +kernel
theorem dX13_goesMotion_16 : decode cX13_goesMotion 16 = .ok (.aload_n 0, 1) := by decide +kernel
theorem dX13_goesMotion_17 : decode cX13_goesMotion 17 = .ok (.getfield 612, 3) := by decide +kernel
theorem dX13_goesMotion_20 : decode cX13_goesMotion 20 = .ok (.iload_n 1, 1) := by decide +kernel
theorem dX13_goesMotion_21 : decode cX13_goesMotion 21 = .ok (.iload_n 2, 1) := by decide +kernel
theorem dX13_goesMotion_22 : decode cX13_goesMotion 22 = .ok (.iconst 0, 1) := by decide +kernel
theorem dX13_goesMotion_23 : decode cX13_goesMotion 23 = .ok (.invokevirtual 541, 3) := by decide +kernel
theorem dX13_goesMotion_26 : decode cX13_goesMotion 26 = .ok (.ifCond .ne 5, 3) := by decide +kernel
theorem dX13_goesMotion_29 : decode cX13_goesMotion 29 = .ok (.iconst 0, 1) := by decide +kernel
theorem dX13_goesMotion_30 : decode cX13_goesMotion 30 = .ok (.ireturn, 1) := by decide +kernel
theorem dX13_goesMotion_31 : decode cX13_goesMotion 31 = .ok (.aload_n 0, 1) := by decide +kernel
theorem dX13_goesMotion_32 : decode cX13_goesMotion 32 = .ok (.aload_n 0, 1) := by decide +kernel
theorem dX13_goesMotion_33 : decode cX13_goesMotion 33 = .ok (.getfield 296, 3) := by decide +kernel
theorem dX13_goesMotion_36 : decode cX13_goesMotion 36 = .ok (.putfield 213, 3) := by decide +kernel
theorem dX13_goesMotion_39 : decode cX13_goesMotion 39 = .ok (.aload_n 0, 1) := by decide +kernel
theorem dX13_goesMotion_40 : decode cX13_goesMotion 40 = .ok (.aload_n 0, 1) := by decide +kernel
theorem dX13_goesMotion_41 : decode cX13_goesMotion 41 = .ok (.getfield 299, 3) := by decide +kernel
theorem dX13_goesMotion_44 : decode cX13_goesMotion 44 = .ok (.putfield 216, 3) := by decide +kernel
theorem dX13_goesMotion_47 : decode cX13_goesMotion 47 = .ok (.aload_n 0, 1) := by decide +kernel
theorem dX13_goesMotion_48 : decode cX13_goesMotion 48 = .ok (.aload_n 0, 1) := by decide +kernel
theorem dX13_goesMotion_49 : decode cX13_goesMotion 49 = .ok (.getfield 615, 3) := by decide +kernel
theorem dX13_goesMotion_52 : decode cX13_goesMotion 52 = .ok (.bipush 106, 2) := by decide +kernel
theorem dX13_goesMotion_54 : decode cX13_goesMotion 54 = .ok (.if_icmp .eq 12, 3) := by decide +kernel
theorem dX13_goesMotion_57 : decode cX13_goesMotion 57 = .ok (.aload_n 0, 1) := by decide +kernel
theorem dX13_goesMotion_58 : decode cX13_goesMotion 58 = .ok (.getfield 615, 3) := by decide +kernel
theorem dX13_goesMotion_61 : decode cX13_goesMotion 61 = .ok (.bipush 107, 2) := by decide +kernel
theorem dX13_goesMotion_63 : decode cX13_goesMotion 63 = .ok (.if_icmp .ne 10, 3) := by decide +kernel
theorem dX13_goesMotion_66 : decode cX13_goesMotion 66 = .ok (.aload_n 0, 1) := by decide +kernel
theorem dX13_goesMotion_67 : decode cX13_goesMotion 67 = .ok (.getfield 219, 3) := by decide +kernel
theorem dX13_goesMotion_70 : decode cX13_goesMotion 70 = .ok (.goto 22, 3) := by decide +kernel
theorem dX13_goesMotion_73 : decode cX13_goesMotion 73 = .ok (.aload_n 0, 1) := by decide +kernel
theorem dX13_goesMotion_74 : decode cX13_goesMotion 74 = .ok (.getfield 615, 3) := by decide +kernel
theorem dX13_goesMotion_77 : decode cX13_goesMotion 77 = .ok (.bipush 36, 2) := by decide +kernel
theorem dX13_goesMotion_79 : decode cX13_goesMotion 79 = .ok (.if_icmp .ne 9, 3) := by decide +kernel
theorem dX13_goesMotion_82 : decode cX13_goesMotion 82 = .ok (.sipush 1000, 3) := by decide +kernel
theorem dX13_goesMotion_85 : decode cX13_goesMotion 85 = .ok (.goto 7, 3) := by decide +kernel
theorem dX13_goesMotion_88 : decode cX13_goesMotion 88 = .ok (.aload_n 0, 1) := by decide +kernel
theorem dX13_goesMotion_89 : decode cX13_goesMotion 89 = .ok (.getfield 216, 3) := by decide +kernel
theorem dX13_goesMotion_92 : decode cX13_goesMotion 92 = .ok (.putfield 219, 3) := by decide +kernel
theorem dX13_goesMotion_95 : decode cX13_goesMotion 95 = .ok (.aload_n 0, 1) := by decide +kernel
theorem dX13_goesMotion_96 : decode cX13_goesMotion 96 = .ok (.getfield 466, 3) := by decide +kernel
theorem dX13_goesMotion_99 : decode cX13_goesMotion 99 = .ok (.ifCond .ne 28, 3) := by decide +kernel
theorem dX13_goesMotion_102 : decode cX13_goesMotion 102 = .ok (.aload_n 0, 1) := by decide +kernel
theorem dX13_goesMotion_103 : decode cX13_goesMotion 103 = .ok (.aload_n 0, 1) := by decide +kernel
theorem dX13_goesMotion_104 : decode cX13_goesMotion 104 = .ok (.getfield 615, 3) := by decide +kernel
theorem dX13_goesMotion_107 : decode cX13_goesMotion 107 = .ok (.invokevirtual 734, 3) := by decide +kernel
theorem dX13_goesMotion_110 : decode cX13_goesMotion 110 = .ok (.ifCond .eq 17, 3) := by decide +kernel
theorem dX13_goesMotion_113 : decode cX13_goesMotion 113 = .ok (.aload_n 0, 1) := by decide +kernel
theorem dX13_goesMotion_114 : decode cX13_goesMotion 114 = .ok (.invokevirtual 247, 3) := by decide +kernel
theorem dX13_goesMotion_117 : decode cX13_goesMotion 117 = .ok (.ifCond .ne 10, 3) := by decide +kernel
theorem dX13_goesMotion_120 : decode cX13_goesMotion 120 = .ok (.aload_n 0, 1) := by decide +kernel
theorem dX13_goesMotion_121 : decode cX13_goesMotion 121 = .ok (.iload_n 3, 1) := by decide +kernel
theorem dX13_goesMotion_122 : decode cX13_goesMotion 122 = .ok (.iload 4, 2) := by decide +kernel
theorem dX13_goesMotion_124 : decode cX13_goesMotion 124 = .ok (.invokevirtual 590, 3) := by decide +kernel
theorem dX13_goesMotion_127 : decode cX13_goesMotion 127 = .ok (.iconst 1, 1) := by decide +kernel
theorem dX13_goesMotion_128 : decode cX13_goesMotion 128 = .ok (.ireturn, 1) := by decide +kernel
theorem dX13_doesOperator_0 : decode cX13_doesOperator 0 = .ok (.bipush 99, 2) := by decide +kernel
theorem dX13_doesOperator_2 : decode cX13_doesOperator 2 = .ok (.iconst 1, 1) := by decide +kernel
theorem dX13_doesOperator_3 : decode cX13_doesOperator 3 = .ok (.aload_n 0, 1) := by decide +kernel
theorem dX13_doesOperator_4 : decode cX13_doesOperator 4 = .ok (.getfield 654, 3) := by decide +kernel
theorem dX13_doesOperator_7 : decode cX13_doesOperator 7 = .ok (.invokestatic 210, 3) := by decide +kernel
theorem dX13_doesOperator_10 : decode cX13_doesOperator 10 = .ok (.iconst 1, 1) := by decide +kernel
theorem dX13_doesOperator_11 : decode cX13_doesOperator 11 = .ok (.aload_n 0, 1) := by decide +kernel
theorem dX13_doesOperator_12 : decode cX13_doesOperator 12 = .ok (.getfield 645, 3) := by decide +kernel
theorem dX13_doesOperator_15 : decode cX13_doesOperator 15 = .ok (.invokestatic 210, 3) := by decide +kernel
theorem dX13_doesOperator_18 : decode cX13_doesOperator 18 = .ok (.imul, 1) := by decide +kernel
theorem dX13_doesOperator_19 : decode cX13_doesOperator 19 = .ok (.invokestatic 257, 3) := by decide +kernel
theorem dX13_doesOperator_22 : decode cX13_doesOperator 22 = .ok (.istore_n 1, 1) := by decide +kernel
theorem dX13_doesOperator_23 : decode cX13_doesOperator 23 = .ok (.aload_n 0, 1) := by decide +kernel
theorem dX13_doesOperator_24 : decode cX13_doesOperator 24 = .ok (.getfield 615, 3) := by decide +kernel
theorem dX13_doesOperator_27 : decode cX13_doesOperator 27 = .ok (.sipush 1024, 3) := by decide +kernel
theorem dX13_doesOperator_30 : decode cX13_doesOperator 30 = .ok (.if_icmp .ne 25, 3) := by decide +kernel
theorem dX13_doesOperator_33 : decode cX13_doesOperator 33 = .ok (.aload_n 0, 1) := by decide +kernel
theorem dX13_doesOperator_34 : decode cX13_doesOperator 34 = .ok (.aload_n 0, 1) := by decide +kernel
theorem dX13_doesOperator_35 : decode cX13_doesOperator 35 = .ok (.getfield 630, 3) := by decide +kernel
theorem dX13_doesOperator_38 : decode cX13_doesOperator 38 = .ok (.aload_n 0, 1) := by decide +kernel
theorem dX13_doesOperator_39 : decode cX13_doesOperator 39 = .ok (.getfield 642, 3) := by decide +kernel
theorem dX13_doesOperator_42 : decode cX13_doesOperator 42 = .ok (.aload_n 0, 1) := by decide +kernel
theorem dX13_doesOperator_43 : decode cX13_doesOperator 43 = .ok (.getfield 612, 3) := by decide +kernel
theorem dX13_doesOperator_46 : decode cX13_doesOperator 46 = .ok (.aload_n 0, 1) := by decide +kernel
theorem dX13_doesOperator_47 : decode cX13_doesOperator 47 = .ok (.getfield 621, 3) := by decide +kernel
theorem dX13_doesOperator_50 : decode cX13_doesOperator 50 = .ok (.iload_n 1, 1) := by decide +kernel
theorem dX13_doesOperator_51 : decode cX13_doesOperator 51 = .ok (.invokevirtual 737, 3) := by decide +kernel
theorem dX13_doesOperator_54 : decode cX13_doesOperator 54 = .ok (.ireturn, 1) := by decide +kernel
theorem dX13_doesOperator_55 : decode cX13_doesOperator 55 = .ok (.aload_n 0, 1) := by decide +kernel
theorem dX13_doesOperator_56 : decode cX13_doesOperator 56 = .ok (.getfield 615, 3) := by decide +kernel
theorem dX13_doesOperator_59 : decode cX13_doesOperator 59 = .ok (.sipush 1025, 3) := by decide +kernel
theorem dX13_doesOperator_62 : decode cX13_doesOperator 62 = .ok (.if_icmp .ne 32, 3) := by decide +kernel
theorem dX13_doesOperator_65 : decode cX13_doesOperator 65 = .ok (.aload_n 0, 1) := by decide +kernel
theorem dX13_doesOperator_66 : decode cX13_doesOperator 66 = .ok (.iload_n 1, 1) := by decide +kernel
theorem dX13_doesOperator_67 : decode cX13_doesOperator 67 = .ok (.invokevirtual 741, 3) := by decide +kernel
theorem dX13_doesOperator_70 : decode cX13_doesOperator 70 = .ok (.ifCond .eq 22, 3) := by decide +kernel
theorem dX13_doesOperator_73 : decode cX13_doesOperator 73 = .ok (.aload_n 0, 1) := by decide +kernel
theorem dX13_doesOperator_74 : decode cX13_doesOperator 74 = .ok (.aload_n 0, 1) := by decide +kernel
theorem dX13_doesOperator_75 : decode cX13_doesOperator 75 = .ok (.getfield 630, 3) := by decide +kernel
theorem dX13_doesOperator_78 : decode cX13_doesOperator 78 = .ok (.aload_n 0, 1) := by decide +kernel
theorem dX13_doesOperator_79 : decode cX13_doesOperator 79 = .ok (.getfield 642, 3) := by decide +kernel
theorem dX13_doesOperator_82 : decode cX13_doesOperator 82 = .ok (.invokevirtual 548, 3) := by decide +kernel
theorem dX13_doesOperator_85 : decode cX13_doesOperator 85 = .ok (.ifCond .eq 7, 3) := by decide +kernel
theorem dX13_doesOperator_88 : decode cX13_doesOperator 88 = .ok (.iconst 1, 1) := by decide +kernel
theorem dX13_doesOperator_89 : decode cX13_doesOperator 89 = .ok (.goto 4, 3) := by decide +kernel
theorem dX13_doesOperator_92 : decode cX13_doesOperator 92 = .ok (.iconst 0, 1) := by decide +kernel
theorem dX13_doesOperator_93 : decode cX13_doesOperator 93 = .ok (.ireturn, 1) := by decide +kernel
theorem dX13_doesOperator_94 : decode cX13_doesOperator 94 = .ok (.aload_n 0, 1) := by decide +kernel
theorem dX13_doesOperator_95 : decode cX13_doesOperator 95 = .ok (.aload_n 0, 1) := by decide +kernel
theorem dX13_doesOperator_96 : decode cX13_doesOperator 96 = .ok (.getfield 630, 3) := by decide +kernel
theorem dX13_doesOperator_99 : decode cX13_doesOperator 99 = .ok (.aload_n 0, 1) := by decide +kernel
theorem dX13_doesOperator_100 : decode cX13_doesOperator 100 = .ok (.getfield 642, 3) := by decide +kernel
theorem dX13_doesOperator_103 : decode cX13_doesOperator 103 = .ok (.aload_n 0, 1) := by decide +kernel
theorem dX13_doesOperator_104 : decode cX13_doesOperator 104 = .ok (.getfield 615, 3) := by decide +kernel
theorem dX13_doesOperator_107 : decode cX13_doesOperator 107 = .ok (.aload_n 0, 1) := by decide +kernel
theorem dX13_doesOperator_108 : decode cX13_doesOperator 108 = .ok (.getfield 612, 3) := by decide +kernel
theorem dX13_doesOperator_111 : decode cX13_doesOperator 111 = .ok (.iload_n 1, 1) := by decide +kernel
theorem dX13_doesOperator_112 : decode cX13_doesOperator 112 = .ok (.aload_n 0, 1) := by decide +kernel
theorem dX13_doesOperator_113 : decode cX13_doesOperator 113 = .ok (.getfield 654, 3) := by decide +kernel
theorem dX13_doesOperator_116 : decode cX13_doesOperator 116 = .ok (.aload_n 0, 1) := by decide +kernel
theorem dX13_doesOperator_117 : decode cX13_doesOperator 117 = .ok (.getfield 645, 3) := by decide +kernel
theorem dX13_doesOperator_120 : decode cX13_doesOperator 120 = .ok (.iadd, 1) := by decide +kernel
theorem dX13_doesOperator_121 : decode cX13_doesOperator 121 = .ok (.ifCond .le 7, 3) := by decide +kernel
theorem dX13_doesOperator_124 : decode cX13_doesOperator 124 = .ok (.iconst 1, 1) := by decide +kernel
theorem dX13_doesOperator_125 : decode cX13_doesOperator 125 = .ok (.goto 4, 3) := by decide +kernel
theorem dX13_doesOperator_128 : decode cX13_doesOperator 128 = .ok (.iconst 0, 1) := by decide +kernel
theorem dX13_doesOperator_129 : decode cX13_doesOperator 129 = .ok (.invokevirtual 744, 3) := by decide +kernel
theorem dX13_doesOperator_132 : decode cX13_doesOperator 132 = .ok (.ireturn, 1) := by decide +kernel
theorem dX13_selects_0 : decode cX13_selects 0 = .ok (.aload_n 0, 1) := by decide +kernel
theorem dX13_selects_1 : decode cX13_selects 1 = .ok (.iload_n 1, 1) := by decide +kernel
theorem dX13_selects_2 : decode cX13_selects 2 = .ok (.bipush 118, 2) := by decide +kernel
theorem dX13_selects_4 : decode cX13_selects 4 = .ok (.if_icmp .ne 7, 3) := by decide +kernel
theorem dX13_selects_7 : decode cX13_selects 7 = .ok (.iconst 2, 1) := by decide +kernel
theorem dX13_selects_8 : decode cX13_selects 8 = .ok (.goto 14, 3) := by decide +kernel
theorem dX13_selects_11 : decode cX13_selects 11 = .ok (.iload_n 1, 1) := by decide +kernel
theorem dX13_selects_12 : decode cX13_selects 12 = .ok (.bipush 86, 2) := by decide +kernel
theorem dX13_selects_14 : decode cX13_selects 14 = .ok (.if_icmp .ne 7, 3) := by decide +kernel
theorem dX13_selects_17 : decode cX13_selects 17 = .ok (.iconst 3, 1) := by decide +kernel
theorem dX13_selects_18 : decode cX13_selects 18 = .ok (.goto 4, 3) := by decide +kernel
theorem dX13_selects_21 : decode cX13_selects 21 = .ok (.iconst 4, 1) := by decide +kernel
theorem dX13_selects_22 : decode cX13_selects 22 = .ok (.putfield 466, 3) := by decide +kernel
theorem dX13_selects_25 : decode cX13_selects 25 = .ok (.aload_n 0, 1) := by decide +kernel
theorem dX13_selects_26 : decode cX13_selects 26 = .ok (.aload_n 0, 1) := by decide +kernel
theorem dX13_selects_27 : decode cX13_selects 27 = .ok (.getfield 213, 3) := by decide +kernel
theorem dX13_selects_30 : decode cX13_selects 30 = .ok (.putfield 748, 3) := by decide +kernel
theorem dX13_selects_33 : decode cX13_selects 33 = .ok (.aload_n 0, 1) := by decide +kernel
theorem dX13_selects_34 : decode cX13_selects 34 = .ok (.aload_n 0, 1) := by decide +kernel
theorem dX13_selects_35 : decode cX13_selects 35 = .ok (.getfield 216, 3) := by decide +kernel
theorem dX13_selects_38 : decode cX13_selects 38 = .ok (.putfield 751, 3) := by decide +kernel
theorem dX13_selects_41 : decode cX13_selects 41 = .ok (.iconst 1, 1) := by decide +kernel
theorem dX13_selects_42 : decode cX13_selects 42 = .ok (.ireturn, 1) := by decide +kernel
theorem dX13_doesPlain_0 : decode cX13_doesPlain 0 = .ok (.aload_n 0, 1) := by decide +kernel
theorem dX13_doesPlain_1 : decode cX13_doesPlain 1 = .ok (.getfield 615, 3) := by decide +kernel
theorem dX13_doesPlain_4 : decode cX13_doesPlain 4 = .ok (.tableswitch 674 22 126 #[653, 674, 674, 674, 674, 674, 674, 674, 674, 674, 674, 674, 674, 674, 674, 674, 674, 674, 674, 674, 674, 674, 674, 674, 674, 674, 674, 674, 674, 674, 674, 674, 674, 674, 674, 674, 662, 674, 674, 674, 674, 674, 674, 609, 674, 468, 468, 674, 674, 674, 674, 609, 555, 674, 674, 674, 674, 609, 585, 674, 674, 514, 674, 674, 653, 674, 452, 514, 674, 674, 674, 674, 674, 674, 674, 609, 674, 674, 674, 674, 674, 674, 674, 609, 674, 674, 674, 619, 674, 609, 585, 674, 569, 498, 674, 674, 653, 674, 436, 674, 674, 674, 674, 674, 579], 436) := by decide +kernel
theorem dX13_doesPlain_440 : decode cX13_doesPlain 440 = .ok (.aload_n 0, 1) := by decide +kernel
theorem dX13_doesPlain_441 : decode cX13_doesPlain 441 = .ok (.bipush 100, 2) := by decide +kernel
theorem dX13_doesPlain_443 : decode cX13_doesPlain 443 = .ok (.aload_n 0, 1) := by decide +kernel
theorem dX13_doesPlain_444 : decode cX13_doesPlain 444 = .ok (.getfield 642, 3) := by decide +kernel
theorem dX13_doesPlain_447 : decode cX13_doesPlain 447 = .ok (.bipush 108, 2) := by decide +kernel
theorem dX13_doesPlain_449 : decode cX13_doesPlain 449 = .ok (.iconst 0, 1) := by decide +kernel
theorem dX13_doesPlain_450 : decode cX13_doesPlain 450 = .ok (.iload_n 1, 1) := by decide +kernel
theorem dX13_doesPlain_451 : decode cX13_doesPlain 451 = .ok (.iconst 1, 1) := by decide +kernel
theorem dX13_doesPlain_452 : decode cX13_doesPlain 452 = .ok (.invokevirtual 744, 3) := by decide +kernel
theorem dX13_doesPlain_455 : decode cX13_doesPlain 455 = .ok (.ireturn, 1) := by decide +kernel
theorem dX13_doesPlain_456 : decode cX13_doesPlain 456 = .ok (.aload_n 0, 1) := by decide +kernel
theorem dX13_doesPlain_457 : decode cX13_doesPlain 457 = .ok (.bipush 100, 2) := by decide +kernel
theorem dX13_doesPlain_459 : decode cX13_doesPlain 459 = .ok (.aload_n 0, 1) := by decide +kernel
theorem dX13_doesPlain_460 : decode cX13_doesPlain 460 = .ok (.getfield 642, 3) := by decide +kernel
theorem dX13_doesPlain_463 : decode cX13_doesPlain 463 = .ok (.bipush 104, 2) := by decide +kernel
theorem dX13_doesPlain_465 : decode cX13_doesPlain 465 = .ok (.iconst 0, 1) := by decide +kernel
theorem dX13_doesPlain_466 : decode cX13_doesPlain 466 = .ok (.iload_n 1, 1) := by decide +kernel
theorem dX13_doesPlain_467 : decode cX13_doesPlain 467 = .ok (.iconst 1, 1) := by decide +kernel
theorem dX13_doesPlain_468 : decode cX13_doesPlain 468 = .ok (.invokevirtual 744, 3) := by decide +kernel
theorem dX13_doesPlain_471 : decode cX13_doesPlain 471 = .ok (.ireturn, 1) := by decide +kernel
theorem dX13_doesPlain_472 : decode cX13_doesPlain 472 = .ok (.aload_n 0, 1) := by decide +kernel
theorem dX13_doesPlain_473 : decode cX13_doesPlain 473 = .ok (.aload_n 0, 1) := by decide +kernel
theorem dX13_doesPlain_474 : decode cX13_doesPlain 474 = .ok (.getfield 615, 3) := by decide +kernel
theorem dX13_doesPlain_477 : decode cX13_doesPlain 477 = .ok (.bipush 68, 2) := by decide +kernel
theorem dX13_doesPlain_479 : decode cX13_doesPlain 479 = .ok (.if_icmp .ne 8, 3) := by decide +kernel
theorem dX13_doesPlain_482 : decode cX13_doesPlain 482 = .ok (.bipush 100, 2) := by decide +kernel
theorem dX13_doesPlain_484 : decode cX13_doesPlain 484 = .ok (.goto 5, 3) := by decide +kernel
theorem dX13_doesPlain_487 : decode cX13_doesPlain 487 = .ok (.bipush 99, 2) := by decide +kernel
theorem dX13_doesPlain_489 : decode cX13_doesPlain 489 = .ok (.aload_n 0, 1) := by decide +kernel
theorem dX13_doesPlain_490 : decode cX13_doesPlain 490 = .ok (.getfield 642, 3) := by decide +kernel
theorem dX13_doesPlain_493 : decode cX13_doesPlain 493 = .ok (.bipush 36, 2) := by decide +kernel
theorem dX13_doesPlain_495 : decode cX13_doesPlain 495 = .ok (.iconst 0, 1) := by decide +kernel
theorem dX13_doesPlain_496 : decode cX13_doesPlain 496 = .ok (.iload_n 1, 1) := by decide +kernel
theorem dX13_doesPlain_497 : decode cX13_doesPlain 497 = .ok (.iconst 1, 1) := by decide +kernel
theorem dX13_doesPlain_498 : decode cX13_doesPlain 498 = .ok (.invokevirtual 744, 3) := by decide +kernel
theorem dX13_doesPlain_501 : decode cX13_doesPlain 501 = .ok (.ireturn, 1) := by decide +kernel
theorem dX13_doesPlain_502 : decode cX13_doesPlain 502 = .ok (.aload_n 0, 1) := by decide +kernel
theorem dX13_doesPlain_503 : decode cX13_doesPlain 503 = .ok (.bipush 99, 2) := by decide +kernel
theorem dX13_doesPlain_505 : decode cX13_doesPlain 505 = .ok (.aload_n 0, 1) := by decide +kernel
theorem dX13_doesPlain_506 : decode cX13_doesPlain 506 = .ok (.getfield 642, 3) := by decide +kernel
theorem dX13_doesPlain_509 : decode cX13_doesPlain 509 = .ok (.bipush 108, 2) := by decide +kernel
theorem dX13_doesPlain_511 : decode cX13_doesPlain 511 = .ok (.iconst 0, 1) := by decide +kernel
theorem dX13_doesPlain_512 : decode cX13_doesPlain 512 = .ok (.iload_n 1, 1) := by decide +kernel
theorem dX13_doesPlain_513 : decode cX13_doesPlain 513 = .ok (.iconst 1, 1) := by decide +kernel
theorem dX13_doesPlain_514 : decode cX13_doesPlain 514 = .ok (.invokevirtual 744, 3) := by decide +kernel
theorem dX13_doesPlain_517 : decode cX13_doesPlain 517 = .ok (.ireturn, 1) := by decide +kernel
theorem dX13_doesPlain_518 : decode cX13_doesPlain 518 = .ok (.aload_n 0, 1) := by decide +kernel
theorem dX13_doesPlain_519 : decode cX13_doesPlain 519 = .ok (.iload_n 1, 1) := by decide +kernel
theorem dX13_doesPlain_520 : decode cX13_doesPlain 520 = .ok (.invokevirtual 741, 3) := by decide +kernel
theorem dX13_doesPlain_523 : decode cX13_doesPlain 523 = .ok (.ifCond .eq 34, 3) := by decide +kernel
theorem dX13_doesPlain_526 : decode cX13_doesPlain 526 = .ok (.aload_n 0, 1) := by decide +kernel
theorem dX13_doesPlain_527 : decode cX13_doesPlain 527 = .ok (.aload_n 0, 1) := by decide +kernel
theorem dX13_doesPlain_528 : decode cX13_doesPlain 528 = .ok (.getfield 615, 3) := by decide +kernel
theorem dX13_doesPlain_531 : decode cX13_doesPlain 531 = .ok (.bipush 83, 2) := by decide +kernel
theorem dX13_doesPlain_533 : decode cX13_doesPlain 533 = .ok (.if_icmp .ne 8, 3) := by decide +kernel
theorem dX13_doesPlain_536 : decode cX13_doesPlain 536 = .ok (.bipush 99, 2) := by decide +kernel
theorem dX13_doesPlain_538 : decode cX13_doesPlain 538 = .ok (.goto 5, 3) := by decide +kernel
theorem dX13_doesPlain_541 : decode cX13_doesPlain 541 = .ok (.bipush 121, 2) := by decide +kernel
theorem dX13_doesPlain_543 : decode cX13_doesPlain 543 = .ok (.aload_n 0, 1) := by decide +kernel
theorem dX13_doesPlain_544 : decode cX13_doesPlain 544 = .ok (.getfield 642, 3) := by decide +kernel
theorem dX13_doesPlain_547 : decode cX13_doesPlain 547 = .ok (.invokevirtual 548, 3) := by decide +kernel
theorem dX13_doesPlain_550 : decode cX13_doesPlain 550 = .ok (.ifCond .eq 7, 3) := by decide +kernel
theorem dX13_doesPlain_553 : decode cX13_doesPlain 553 = .ok (.iconst 1, 1) := by decide +kernel
theorem dX13_doesPlain_554 : decode cX13_doesPlain 554 = .ok (.goto 4, 3) := by decide +kernel
theorem dX13_doesPlain_557 : decode cX13_doesPlain 557 = .ok (.iconst 0, 1) := by decide +kernel
theorem dX13_doesPlain_558 : decode cX13_doesPlain 558 = .ok (.ireturn, 1) := by decide +kernel
theorem dX13_doesPlain_559 : decode cX13_doesPlain 559 = .ok (.aload_n 0, 1) := by decide +kernel
theorem dX13_doesPlain_560 : decode cX13_doesPlain 560 = .ok (.aload_n 0, 1) := by decide +kernel
theorem dX13_doesPlain_561 : decode cX13_doesPlain 561 = .ok (.getfield 213, 3) := by decide +kernel
theorem dX13_doesPlain_564 : decode cX13_doesPlain 564 = .ok (.iconst 2, 1) := by decide +kernel
theorem dX13_doesPlain_565 : decode cX13_doesPlain 565 = .ok (.iload_n 1, 1) := by decide +kernel
theorem dX13_doesPlain_566 : decode cX13_doesPlain 566 = .ok (.invokestatic 210, 3) := by decide +kernel
theorem dX13_doesPlain_569 : decode cX13_doesPlain 569 = .ok (.invokevirtual 754, 3) := by decide +kernel
theorem dX13_doesPlain_572 : decode cX13_doesPlain 572 = .ok (.ireturn, 1) := by decide +kernel
theorem dX13_doesPlain_573 : decode cX13_doesPlain 573 = .ok (.aload_n 0, 1) := by decide +kernel
theorem dX13_doesPlain_574 : decode cX13_doesPlain 574 = .ok (.aload_n 0, 1) := by decide +kernel
theorem dX13_doesPlain_575 : decode cX13_doesPlain 575 = .ok (.getfield 612, 3) := by decide +kernel
theorem dX13_doesPlain_578 : decode cX13_doesPlain 578 = .ok (.iload_n 1, 1) := by decide +kernel
theorem dX13_doesPlain_579 : decode cX13_doesPlain 579 = .ok (.invokevirtual 757, 3) := by decide +kernel
theorem dX13_doesPlain_582 : decode cX13_doesPlain 582 = .ok (.ireturn, 1) := by decide +kernel
theorem dX13_doesPlain_583 : decode cX13_doesPlain 583 = .ok (.aload_n 0, 1) := by decide +kernel
theorem dX13_doesPlain_584 : decode cX13_doesPlain 584 = .ok (.iload_n 1, 1) := by decide +kernel
theorem dX13_doesPlain_585 : decode cX13_doesPlain 585 = .ok (.invokevirtual 760, 3) := by decide +kernel
theorem dX13_doesPlain_588 : decode cX13_doesPlain 588 = .ok (.ireturn, 1) := by decide +kernel
theorem dX13_doesPlain_589 : decode cX13_doesPlain 589 = .ok (.aload_n 0, 1) := by decide +kernel
theorem dX13_doesPlain_590 : decode cX13_doesPlain 590 = .ok (.aload_n 0, 1) := by decide +kernel
theorem dX13_doesPlain_591 : decode cX13_doesPlain 591 = .ok (.getfield 642, 3) := by decide +kernel
theorem dX13_doesPlain_594 : decode cX13_doesPlain 594 = .ok (.iload_n 1, 1) := by decide +kernel
theorem dX13_doesPlain_595 : decode cX13_doesPlain 595 = .ok (.aload_n 0, 1) := by decide +kernel
theorem dX13_doesPlain_596 : decode cX13_doesPlain 596 = .ok (.getfield 615, 3) := by decide +kernel
theorem dX13_doesPlain_599 : decode cX13_doesPlain 599 = .ok (.bipush 80, 2) := by decide +kernel
theorem dX13_doesPlain_601 : decode cX13_doesPlain 601 = .ok (.if_icmp .ne 7, 3) := by decide +kernel
theorem dX13_doesPlain_604 : decode cX13_doesPlain 604 = .ok (.iconst 1, 1) := by decide +kernel
theorem dX13_doesPlain_605 : decode cX13_doesPlain 605 = .ok (.goto 4, 3) := by decide +kernel
theorem dX13_doesPlain_608 : decode cX13_doesPlain 608 = .ok (.iconst 0, 1) := by decide +kernel
theorem dX13_doesPlain_609 : decode cX13_doesPlain 609 = .ok (.invokevirtual 763, 3) := by decide +kernel
theorem dX13_doesPlain_612 : decode cX13_doesPlain 612 = .ok (.ireturn, 1) := by decide +kernel
theorem dX13_doesPlain_613 : decode cX13_doesPlain 613 = .ok (.aload_n 0, 1) := by decide +kernel
theorem dX13_doesPlain_614 : decode cX13_doesPlain 614 = .ok (.aload_n 0, 1) := by decide +kernel
theorem dX13_doesPlain_615 : decode cX13_doesPlain 615 = .ok (.getfield 615, 3) := by decide +kernel
theorem dX13_doesPlain_618 : decode cX13_doesPlain 618 = .ok (.iload_n 1, 1) := by decide +kernel
theorem dX13_doesPlain_619 : decode cX13_doesPlain 619 = .ok (.invokevirtual 767, 3) := by decide +kernel
theorem dX13_doesPlain_622 : decode cX13_doesPlain 622 = .ok (.ireturn, 1) := by decide +kernel
theorem dX13_doesPlain_623 : decode cX13_doesPlain 623 = .ok (.aload_n 0, 1) := by decide +kernel
theorem dX13_doesPlain_624 : decode cX13_doesPlain 624 = .ok (.getfield 33, 3) := by decide +kernel
theorem dX13_doesPlain_627 : decode cX13_doesPlain 627 = .ok (.aload_n 0, 1) := by decide +kernel
theorem dX13_doesPlain_628 : decode cX13_doesPlain 628 = .ok (.getfield 612, 3) := by decide +kernel
theorem dX13_doesPlain_631 : decode cX13_doesPlain 631 = .ok (.bipush 97, 2) := by decide +kernel
theorem dX13_doesPlain_633 : decode cX13_doesPlain 633 = .ok (.isub, 1) := by decide +kernel
theorem dX13_doesPlain_634 : decode cX13_doesPlain 634 = .ok (.aload_n 0, 1) := by decide +kernel
theorem dX13_doesPlain_635 : decode cX13_doesPlain 635 = .ok (.getfield 213, 3) := by decide +kernel
theorem dX13_doesPlain_638 : decode cX13_doesPlain 638 = .ok (.iastore, 1) := by decide +kernel
theorem dX13_doesPlain_639 : decode cX13_doesPlain 639 = .ok (.aload_n 0, 1) := by decide +kernel
theorem dX13_doesPlain_640 : decode cX13_doesPlain 640 = .ok (.getfield 36, 3) := by decide +kernel
theorem dX13_doesPlain_643 : decode cX13_doesPlain 643 = .ok (.aload_n 0, 1) := by decide +kernel
theorem dX13_doesPlain_644 : decode cX13_doesPlain 644 = .ok (.getfield 612, 3) := by decide +kernel
theorem dX13_doesPlain_647 : decode cX13_doesPlain 647 = .ok (.bipush 97, 2) := by decide +kernel
theorem dX13_doesPlain_649 : decode cX13_doesPlain 649 = .ok (.isub, 1) := by decide +kernel
theorem dX13_doesPlain_650 : decode cX13_doesPlain 650 = .ok (.aload_n 0, 1) := by decide +kernel
theorem dX13_doesPlain_651 : decode cX13_doesPlain 651 = .ok (.getfield 216, 3) := by decide +kernel
theorem dX13_doesPlain_654 : decode cX13_doesPlain 654 = .ok (.iastore, 1) := by decide +kernel
theorem dX13_doesPlain_655 : decode cX13_doesPlain 655 = .ok (.iconst 1, 1) := by decide +kernel
theorem dX13_doesPlain_656 : decode cX13_doesPlain 656 = .ok (.ireturn, 1) := by decide +kernel
theorem dX13_doesPlain_657 : decode cX13_doesPlain 657 = .ok (.aload_n 0, 1) := by decide +kernel
theorem dX13_doesPlain_658 : decode cX13_doesPlain 658 = .ok (.aload_n 0, 1) := by decide +kernel
theorem dX13_doesPlain_659 : decode cX13_doesPlain 659 = .ok (.getfield 615, 3) := by decide +kernel
theorem dX13_doesPlain_662 : decode cX13_doesPlain 662 = .ok (.invokevirtual 770, 3) := by decide +kernel
theorem dX13_doesPlain_665 : decode cX13_doesPlain 665 = .ok (.ireturn, 1) := by decide +kernel
theorem dX13_doesPlain_666 : decode cX13_doesPlain 666 = .ok (.aload_n 0, 1) := by decide +kernel
theorem dX13_doesPlain_667 : decode cX13_doesPlain 667 = .ok (.iconst 5, 1) := by decide +kernel
theorem dX13_doesPlain_668 : decode cX13_doesPlain 668 = .ok (.putfield 466, 3) := by decide +kernel
theorem dX13_doesPlain_671 : decode cX13_doesPlain 671 = .ok (.aload_n 0, 1) := by decide +kernel
theorem dX13_doesPlain_672 : decode cX13_doesPlain 672 = .ok (.iconst 0, 1) := by decide +kernel
theorem dX13_doesPlain_673 : decode cX13_doesPlain 673 = .ok (.putfield 773, 3) := by decide +kernel
theorem dX13_doesPlain_676 : decode cX13_doesPlain 676 = .ok (.iconst 1, 1) := by decide +kernel
theorem dX13_doesPlain_677 : decode cX13_doesPlain 677 = .ok (.ireturn, 1) := by decide +kernel
theorem dX13_doesPlain_678 : decode cX13_doesPlain 678 = .ok (.aload_n 0, 1) := by decide +kernel
theorem dX13_doesPlain_679 : decode cX13_doesPlain 679 = .ok (.iload_n 1, 1) := by decide +kernel
theorem dX13_doesPlain_680 : decode cX13_doesPlain 680 = .ok (.invokevirtual 776, 3) := by decide +kernel
theorem dX13_doesPlain_683 : decode cX13_doesPlain 683 = .ok (.ireturn, 1) := by decide +kernel
theorem dX13_doesFurther_0 : decode cX13_doesFurther 0 = .ok (.aload_n 0, 1) := by decide +kernel
theorem dX13_doesFurther_1 : decode cX13_doesFurther 1 = .ok (.getfield 615, 3) := by decide +kernel
theorem dX13_doesFurther_4 : decode cX13_doesFurther 4 = .ok (.lookupswitch 156 #[(9, 124), (15, 118), (18, 92), (46, 102), (64, 112), (113, 107), (117, 92), (299, 92), (301, 92), (365, 151)], 92) := by decide +kernel
theorem dX13_doesFurther_96 : decode cX13_doesFurther 96 = .ok (.aload_n 0, 1) := by decide +kernel
theorem dX13_doesFurther_97 : decode cX13_doesFurther 97 = .ok (.aload_n 0, 1) := by decide +kernel
theorem dX13_doesFurther_98 : decode cX13_doesFurther 98 = .ok (.getfield 615, 3) := by decide +kernel
theorem dX13_doesFurther_101 : decode cX13_doesFurther 101 = .ok (.iload_n 1, 1) := by decide +kernel
theorem dX13_doesFurther_102 : decode cX13_doesFurther 102 = .ok (.invokevirtual 779, 3) := by decide +kernel
theorem dX13_doesFurther_105 : decode cX13_doesFurther 105 = .ok (.ireturn, 1) := by decide +kernel
theorem dX13_doesFurther_106 : decode cX13_doesFurther 106 = .ok (.aload_n 0, 1) := by decide +kernel
theorem dX13_doesFurther_107 : decode cX13_doesFurther 107 = .ok (.invokevirtual 782, 3) := by decide +kernel
theorem dX13_doesFurther_110 : decode cX13_doesFurther 110 = .ok (.ireturn, 1) := by decide +kernel
theorem dX13_doesFurther_111 : decode cX13_doesFurther 111 = .ok (.aload_n 0, 1) := by decide +kernel
theorem dX13_doesFurther_112 : decode cX13_doesFurther 112 = .ok (.invokevirtual 785, 3) := by decide +kernel
theorem dX13_doesFurther_115 : decode cX13_doesFurther 115 = .ok (.ireturn, 1) := by decide +kernel
theorem dX13_doesFurther_116 : decode cX13_doesFurther 116 = .ok (.aload_n 0, 1) := by decide +kernel
theorem dX13_doesFurther_117 : decode cX13_doesFurther 117 = .ok (.iload_n 1, 1) := by decide +kernel
theorem dX13_doesFurther_118 : decode cX13_doesFurther 118 = .ok (.invokevirtual 788, 3) := by decide +kernel
theorem dX13_doesFurther_121 : decode cX13_doesFurther 121 = .ok (.ireturn, 1) := by decide +kernel
theorem dX13_doesFurther_122 : decode cX13_doesFurther 122 = .ok (.aload_n 0, 1) := by decide +kernel
theorem dX13_doesFurther_123 : decode cX13_doesFurther 123 = .ok (.iload_n 1, 1) := by decide +kernel
theorem dX13_doesFurther_124 : decode cX13_doesFurther 124 = .ok (.invokevirtual 791, 3) := by decide +kernel
theorem dX13_doesFurther_127 : decode cX13_doesFurther 127 = .ok (.ireturn, 1) := by decide +kernel
theorem dX13_doesFurther_128 : decode cX13_doesFurther 128 = .ok (.aload_n 0, 1) := by decide +kernel
theorem dX13_doesFurther_129 : decode cX13_doesFurther 129 = .ok (.getfield 45, 3) := by decide +kernel
theorem dX13_doesFurther_132 : decode cX13_doesFurther 132 = .ok (.iconst (-1), 1) := by decide +kernel
theorem dX13_doesFurther_133 : decode cX13_doesFurther 133 = .ok (.if_icmp .eq 20, 3) := by decide +kernel
theorem dX13_doesFurther_136 : decode cX13_doesFurther 136 = .ok (.aload_n 0, 1) := by decide +kernel
theorem dX13_doesFurther_137 : decode cX13_doesFurther 137 = .ok (.aload_n 0, 1) := by decide +kernel
theorem dX13_doesFurther_138 : decode cX13_doesFurther 138 = .ok (.getfield 45, 3) := by decide +kernel
theorem dX13_doesFurther_141 : decode cX13_doesFurther 141 = .ok (.iload_n 1, 1) := by decide +kernel
theorem dX13_doesFurther_142 : decode cX13_doesFurther 142 = .ok (.iadd, 1) := by decide +kernel
theorem dX13_doesFurther_143 : decode cX13_doesFurther 143 = .ok (.invokevirtual 587, 3) := by decide +kernel
theorem dX13_doesFurther_146 : decode cX13_doesFurther 146 = .ok (.ifCond .eq 7, 3) := by decide +kernel
theorem dX13_doesFurther_149 : decode cX13_doesFurther 149 = .ok (.iconst 1, 1) := by decide +kernel
theorem dX13_doesFurther_150 : decode cX13_doesFurther 150 = .ok (.goto 4, 3) := by decide +kernel
theorem dX13_doesFurther_153 : decode cX13_doesFurther 153 = .ok (.iconst 0, 1) := by decide +kernel
theorem dX13_doesFurther_154 : decode cX13_doesFurther 154 = .ok (.ireturn, 1) := by decide +kernel
theorem dX13_doesFurther_155 : decode cX13_doesFurther 155 = .ok (.aload_n 0, 1) := by decide +kernel
theorem dX13_doesFurther_156 : decode cX13_doesFurther 156 = .ok (.invokevirtual 794, 3) := by decide +kernel
theorem dX13_doesFurther_159 : decode cX13_doesFurther 159 = .ok (.ireturn, 1) := by decide +kernel
theorem dX13_doesFurther_160 : decode cX13_doesFurther 160 = .ok (.aload_n 0, 1) := by decide +kernel
theorem dX13_doesFurther_161 : decode cX13_doesFurther 161 = .ok (.aload_n 0, 1) := by decide +kernel
theorem dX13_doesFurther_162 : decode cX13_doesFurther 162 = .ok (.getfield 615, 3) := by decide +kernel
theorem dX13_doesFurther_165 : decode cX13_doesFurther 165 = .ok (.invokevirtual 797, 3) := by decide +kernel
theorem dX13_doesFurther_168 : decode cX13_doesFurther 168 = .ok (.ireturn, 1) := by decide +kernel
theorem dX13_does_0 : decode cX13_does 0 = .ok (.aload_n 0, 1) := by decide +kernel
theorem dX13_does_1 : decode cX13_does 1 = .ok (.getfield 615, 3) := by decide +kernel
theorem dX13_does_4 : decode cX13_does 4 = .ok (.bipush 47, 2) := by decide +kernel
theorem dX13_does_6 : decode cX13_does 6 = .ok (.if_icmp .ne 7, 3) := by decide +kernel
theorem dX13_does_9 : decode cX13_does 9 = .ok (.iconst 1, 1) := by decide +kernel
theorem dX13_does_10 : decode cX13_does 10 = .ok (.goto 4, 3) := by decide +kernel
theorem dX13_does_13 : decode cX13_does 13 = .ok (.iconst 0, 1) := by decide +kernel
theorem dX13_does_14 : decode cX13_does 14 = .ok (.istore_n 1, 1) := by decide +kernel
theorem dX13_does_15 : decode cX13_does 15 = .ok (.iload_n 1, 1) := by decide +kernel
theorem dX13_does_16 : decode cX13_does 16 = .ok (.ifCond .eq 7, 3) := by decide +kernel
theorem dX13_does_19 : decode cX13_does 19 = .ok (.aload_n 0, 1) := by decide +kernel
theorem dX13_does_20 : decode cX13_does 20 = .ok (.invokevirtual 800, 3) := by decide +kernel
theorem dX13_does_23 : decode cX13_does 23 = .ok (.aload_n 0, 1) := by decide +kernel
theorem dX13_does_24 : decode cX13_does 24 = .ok (.getfield 630, 3) := by decide +kernel
theorem dX13_does_27 : decode cX13_does 27 = .ok (.ifCond .eq 10, 3) := by decide +kernel
theorem dX13_does_30 : decode cX13_does 30 = .ok (.aload_n 0, 1) := by decide +kernel
theorem dX13_does_31 : decode cX13_does 31 = .ok (.invokevirtual 803, 3) := by decide +kernel
theorem dX13_does_34 : decode cX13_does 34 = .ok (.goto 52, 3) := by decide +kernel
theorem dX13_does_37 : decode cX13_does 37 = .ok (.aload_n 0, 1) := by decide +kernel
theorem dX13_does_38 : decode cX13_does 38 = .ok (.getfield 615, 3) := by decide +kernel
theorem dX13_does_41 : decode cX13_does 41 = .ok (.invokestatic 636, 3) := by decide +kernel
theorem dX13_does_44 : decode cX13_does 44 = .ok (.ifCond .eq 30, 3) := by decide +kernel
theorem dX13_does_47 : decode cX13_does 47 = .ok (.aload_n 0, 1) := by decide +kernel
theorem dX13_does_48 : decode cX13_does 48 = .ok (.iconst 1, 1) := by decide +kernel
theorem dX13_does_49 : decode cX13_does 49 = .ok (.aload_n 0, 1) := by decide +kernel
theorem dX13_does_50 : decode cX13_does 50 = .ok (.getfield 654, 3) := by decide +kernel
theorem dX13_does_53 : decode cX13_does 53 = .ok (.invokestatic 210, 3) := by decide +kernel
theorem dX13_does_56 : decode cX13_does 56 = .ok (.aload_n 0, 1) := by decide +kernel
theorem dX13_does_57 : decode cX13_does 57 = .ok (.getfield 654, 3) := by decide +kernel
theorem dX13_does_60 : decode cX13_does 60 = .ok (.ifCond .le 7, 3) := by decide +kernel
theorem dX13_does_63 : decode cX13_does 63 = .ok (.iconst 1, 1) := by decide +kernel
theorem dX13_does_64 : decode cX13_does 64 = .ok (.goto 4, 3) := by decide +kernel
theorem dX13_does_67 : decode cX13_does 67 = .ok (.iconst 0, 1) := by decide +kernel
theorem dX13_does_68 : decode cX13_does 68 = .ok (.invokevirtual 806, 3) := by decide +kernel
theorem dX13_does_71 : decode cX13_does 71 = .ok (.goto 15, 3) := by decide +kernel
theorem dX13_does_74 : decode cX13_does 74 = .ok (.aload_n 0, 1) := by decide +kernel
theorem dX13_does_75 : decode cX13_does 75 = .ok (.iconst 1, 1) := by decide +kernel
theorem dX13_does_76 : decode cX13_does 76 = .ok (.aload_n 0, 1) := by decide +kernel
theorem dX13_does_77 : decode cX13_does 77 = .ok (.getfield 654, 3) := by decide +kernel
theorem dX13_does_80 : decode cX13_does 80 = .ok (.invokestatic 210, 3) := by decide +kernel
theorem dX13_does_83 : decode cX13_does 83 = .ok (.invokevirtual 809, 3) := by decide +kernel
theorem dX13_does_86 : decode cX13_does 86 = .ok (.istore_n 2, 1) := by decide +kernel
theorem dX13_does_87 : decode cX13_does 87 = .ok (.iload_n 1, 1) := by decide +kernel
theorem dX13_does_88 : decode cX13_does 88 = .ok (.ifCond .eq 11, 3) := by decide +kernel
theorem dX13_does_91 : decode cX13_does 91 = .ok (.iload_n 2, 1) := by decide +kernel
theorem dX13_does_92 : decode cX13_does 92 = .ok (.ifCond .ne 7, 3) := by decide +kernel
theorem dX13_does_95 : decode cX13_does 95 = .ok (.aload_n 0, 1) := by decide +kernel
theorem dX13_does_96 : decode cX13_does 96 = .ok (.invokevirtual 812, 3) := by decide +kernel
theorem dX13_does_99 : decode cX13_does 99 = .ok (.iload_n 2, 1) := by decide +kernel
theorem dX13_does_100 : decode cX13_does 100 = .ok (.ifCond .eq 55, 3) := by decide +kernel
theorem dX13_does_103 : decode cX13_does 103 = .ok (.aload_n 0, 1) := by decide +kernel
theorem dX13_does_104 : decode cX13_does 104 = .ok (.getfield 615, 3) := by decide +kernel
theorem dX13_does_107 : decode cX13_does 107 = .ok (.bipush 102, 2) := by decide +kernel
theorem dX13_does_109 : decode cX13_does 109 = .ok (.if_icmp .eq 30, 3) := by decide +kernel
theorem dX13_does_112 : decode cX13_does 112 = .ok (.aload_n 0, 1) := by decide +kernel
theorem dX13_does_113 : decode cX13_does 113 = .ok (.getfield 615, 3) := by decide +kernel
theorem dX13_does_116 : decode cX13_does 116 = .ok (.bipush 116, 2) := by decide +kernel
theorem dX13_does_118 : decode cX13_does 118 = .ok (.if_icmp .eq 21, 3) := by decide +kernel
theorem dX13_does_121 : decode cX13_does 121 = .ok (.aload_n 0, 1) := by decide +kernel
theorem dX13_does_122 : decode cX13_does 122 = .ok (.getfield 615, 3) := by decide +kernel
theorem dX13_does_125 : decode cX13_does 125 = .ok (.bipush 70, 2) := by decide +kernel
theorem dX13_does_127 : decode cX13_does 127 = .ok (.if_icmp .eq 12, 3) := by decide +kernel
theorem dX13_does_130 : decode cX13_does 130 = .ok (.aload_n 0, 1) := by decide +kernel
theorem dX13_does_131 : decode cX13_does 131 = .ok (.getfield 615, 3) := by decide +kernel
theorem dX13_does_134 : decode cX13_does 134 = .ok (.bipush 84, 2) := by decide +kernel
theorem dX13_does_136 : decode cX13_does 136 = .ok (.if_icmp .ne 19, 3) := by decide +kernel
theorem dX13_does_139 : decode cX13_does 139 = .ok (.aload_n 0, 1) := by decide +kernel
theorem dX13_does_140 : decode cX13_does 140 = .ok (.aload_n 0, 1) := by decide +kernel
theorem dX13_does_141 : decode cX13_does 141 = .ok (.getfield 615, 3) := by decide +kernel
theorem dX13_does_144 : decode cX13_does 144 = .ok (.putfield 371, 3) := by decide +kernel
theorem dX13_does_147 : decode cX13_does 147 = .ok (.aload_n 0, 1) := by decide +kernel
theorem dX13_does_148 : decode cX13_does 148 = .ok (.aload_n 0, 1) := by decide +kernel
theorem dX13_does_149 : decode cX13_does 149 = .ok (.getfield 612, 3) := by decide +kernel
theorem dX13_does_152 : decode cX13_does 152 = .ok (.putfield 374, 3) := by decide +kernel
theorem dX13_does_155 : decode cX13_does 155 = .ok (.iload_n 2, 1) := by decide +kernel
theorem dX13_does_156 : decode cX13_does 156 = .ok (.ireturn, 1) := by decide +kernel
theorem dX13_records_0 : decode cX13_records 0 = .ok (.aload_n 0, 1) := by decide +kernel
theorem dX13_records_1 : decode cX13_records 1 = .ok (.invokevirtual 581, 3) := by decide +kernel
theorem dX13_records_4 : decode cX13_records 4 = .ok (.ifCond .eq 5, 3) := by decide +kernel
theorem dX13_records_7 : decode cX13_records 7 = .ok (.iconst 0, 1) := by decide +kernel
theorem dX13_records_8 : decode cX13_records 8 = .ok (.ireturn, 1) := by decide +kernel
theorem dX13_records_9 : decode cX13_records 9 = .ok (.aload_n 0, 1) := by decide +kernel
theorem dX13_records_10 : decode cX13_records 10 = .ok (.getfield 114, 3) := by decide +kernel
theorem dX13_records_13 : decode cX13_records 13 = .ok (.iconst (-1), 1) := by decide +kernel
theorem dX13_records_14 : decode cX13_records 14 = .ok (.if_icmp .ne 21, 3) := by decide +kernel
theorem dX13_records_17 : decode cX13_records 17 = .ok (.aload_n 0, 1) := by decide +kernel
theorem dX13_records_18 : decode cX13_records 18 = .ok (.aload_n 0, 1) := by decide +kernel
theorem dX13_records_19 : decode cX13_records 19 = .ok (.getfield 612, 3) := by decide +kernel
theorem dX13_records_22 : decode cX13_records 22 = .ok (.bipush 97, 2) := by decide +kernel
theorem dX13_records_24 : decode cX13_records 24 = .ok (.isub, 1) := by decide +kernel
theorem dX13_records_25 : decode cX13_records 25 = .ok (.putfield 114, 3) := by decide +kernel
theorem dX13_records_28 : decode cX13_records 28 = .ok (.aload_n 0, 1) := by decide +kernel
theorem dX13_records_29 : decode cX13_records 29 = .ok (.iconst 0, 1) := by decide +kernel
theorem dX13_records_30 : decode cX13_records 30 = .ok (.putfield 815, 3) := by decide +kernel
theorem dX13_records_33 : decode cX13_records 33 = .ok (.iconst 1, 1) := by decide +kernel
theorem dX13_records_34 : decode cX13_records 34 = .ok (.ireturn, 1) := by decide +kernel
theorem dX13_records_35 : decode cX13_records 35 = .ok (.aload_n 0, 1) := by decide +kernel
theorem dX13_records_36 : decode cX13_records 36 = .ok (.getfield 26, 3) := by decide +kernel
theorem dX13_records_39 : decode cX13_records 39 = .ok (.aload_n 0, 1) := by decide +kernel
theorem dX13_records_40 : decode cX13_records 40 = .ok (.getfield 114, 3) := by decide +kernel
theorem dX13_records_43 : decode cX13_records 43 = .ok (.aload_n 0, 1) := by decide +kernel
theorem dX13_records_44 : decode cX13_records 44 = .ok (.getfield 815, 3) := by decide +kernel
theorem dX13_records_47 : decode cX13_records 47 = .ok (.iconst 1, 1) := by decide +kernel
theorem dX13_records_48 : decode cX13_records 48 = .ok (.isub, 1) := by decide +kernel
theorem dX13_records_49 : decode cX13_records 49 = .ok (.sipush 3000, 3) := by decide +kernel
theorem dX13_records_52 : decode cX13_records 52 = .ok (.invokestatic 257, 3) := by decide +kernel
theorem dX13_records_55 : decode cX13_records 55 = .ok (.iastore, 1) := by decide +kernel
theorem dX13_records_56 : decode cX13_records 56 = .ok (.aload_n 0, 1) := by decide +kernel
theorem dX13_records_57 : decode cX13_records 57 = .ok (.getfield 23, 3) := by decide +kernel
theorem dX13_records_60 : decode cX13_records 60 = .ok (.aload_n 0, 1) := by decide +kernel
theorem dX13_records_61 : decode cX13_records 61 = .ok (.getfield 114, 3) := by decide +kernel
theorem dX13_records_64 : decode cX13_records 64 = .ok (.aload_n 0, 1) := by decide +kernel
theorem dX13_records_65 : decode cX13_records 65 = .ok (.getfield 26, 3) := by decide +kernel
theorem dX13_records_68 : decode cX13_records 68 = .ok (.aload_n 0, 1) := by decide +kernel
theorem dX13_records_69 : decode cX13_records 69 = .ok (.getfield 114, 3) := by decide +kernel
theorem dX13_records_72 : decode cX13_records 72 = .ok (.iaload, 1) := by decide +kernel
theorem dX13_records_73 : decode cX13_records 73 = .ok (.ifCond .le 7, 3) := by decide +kernel
theorem dX13_records_76 : decode cX13_records 76 = .ok (.iconst 1, 1) := by decide +kernel
theorem dX13_records_77 : decode cX13_records 77 = .ok (.goto 4, 3) := by decide +kernel
theorem dX13_records_80 : decode cX13_records 80 = .ok (.iconst 0, 1) := by decide +kernel
theorem dX13_records_81 : decode cX13_records 81 = .ok (.iastore, 1) := by decide +kernel
theorem dX13_records_82 : decode cX13_records 82 = .ok (.iconst 0, 1) := by decide +kernel
theorem dX13_records_83 : decode cX13_records 83 = .ok (.istore_n 1, 1) := by decide +kernel
theorem dX13_records_84 : decode cX13_records 84 = .ok (.iload_n 1, 1) := by decide +kernel
theorem dX13_records_85 : decode cX13_records 85 = .ok (.aload_n 0, 1) := by decide +kernel
theorem dX13_records_86 : decode cX13_records 86 = .ok (.getfield 26, 3) := by decide +kernel
theorem dX13_records_89 : decode cX13_records 89 = .ok (.aload_n 0, 1) := by decide +kernel
theorem dX13_records_90 : decode cX13_records 90 = .ok (.getfield 114, 3) := by decide +kernel
theorem dX13_records_93 : decode cX13_records 93 = .ok (.iaload, 1) := by decide +kernel
theorem dX13_records_94 : decode cX13_records 94 = .ok (.if_icmp .ge 30, 3) := by decide +kernel
theorem dX13_records_97 : decode cX13_records 97 = .ok (.aload_n 0, 1) := by decide +kernel
theorem dX13_records_98 : decode cX13_records 98 = .ok (.getfield 30, 3) := by decide +kernel
theorem dX13_records_101 : decode cX13_records 101 = .ok (.sipush 3000, 3) := by decide +kernel
theorem dX13_records_104 : decode cX13_records 104 = .ok (.aload_n 0, 1) := by decide +kernel
theorem dX13_records_105 : decode cX13_records 105 = .ok (.getfield 114, 3) := by decide +kernel
theorem dX13_records_108 : decode cX13_records 108 = .ok (.imul, 1) := by decide +kernel
theorem dX13_records_109 : decode cX13_records 109 = .ok (.iload_n 1, 1) := by decide +kernel
theorem dX13_records_110 : decode cX13_records 110 = .ok (.iadd, 1) := by decide +kernel
theorem dX13_records_111 : decode cX13_records 111 = .ok (.aload_n 0, 1) := by decide +kernel
theorem dX13_records_112 : decode cX13_records 112 = .ok (.getfield 117, 3) := by decide +kernel
theorem dX13_records_115 : decode cX13_records 115 = .ok (.iload_n 1, 1) := by decide +kernel
theorem dX13_records_116 : decode cX13_records 116 = .ok (.iaload, 1) := by decide +kernel
theorem dX13_records_117 : decode cX13_records 117 = .ok (.iastore, 1) := by decide +kernel
theorem dX13_records_118 : decode cX13_records 118 = .ok (.iinc 1 1, 3) := by decide +kernel
theorem dX13_records_121 : decode cX13_records 121 = .ok (.goto (-37), 3) := by decide +kernel
theorem dX13_records_124 : decode cX13_records 124 = .ok (.aload_n 0, 1) := by decide +kernel
theorem dX13_records_125 : decode cX13_records 125 = .ok (.iconst (-1), 1) := by decide +kernel
theorem dX13_records_126 : decode cX13_records 126 = .ok (.putfield 114, 3) := by decide +kernel
theorem dX13_records_129 : decode cX13_records 129 = .ok (.iconst 1, 1) := by decide +kernel
theorem dX13_records_130 : decode cX13_records 130 = .ok (.ireturn, 1) := by decide +kernel
theorem dX13_plays_0 : decode cX13_plays 0 = .ok (.aload_n 0, 1) := by decide +kernel
theorem dX13_plays_1 : decode cX13_plays 1 = .ok (.getfield 612, 3) := by decide +kernel
theorem dX13_plays_4 : decode cX13_plays 4 = .ok (.bipush 64, 2) := by decide +kernel
theorem dX13_plays_6 : decode cX13_plays 6 = .ok (.if_icmp .ne 10, 3) := by decide +kernel
theorem dX13_plays_9 : decode cX13_plays 9 = .ok (.aload_n 0, 1) := by decide +kernel
theorem dX13_plays_10 : decode cX13_plays 10 = .ok (.getfield 120, 3) := by decide +kernel
theorem dX13_plays_13 : decode cX13_plays 13 = .ok (.goto 10, 3) := by decide +kernel
theorem dX13_plays_16 : decode cX13_plays 16 = .ok (.aload_n 0, 1) := by decide +kernel
theorem dX13_plays_17 : decode cX13_plays 17 = .ok (.getfield 612, 3) := by decide +kernel
theorem dX13_plays_20 : decode cX13_plays 20 = .ok (.bipush 97, 2) := by decide +kernel
theorem dX13_plays_22 : decode cX13_plays 22 = .ok (.isub, 1) := by decide +kernel
theorem dX13_plays_23 : decode cX13_plays 23 = .ok (.istore_n 2, 1) := by decide +kernel
theorem dX13_plays_24 : decode cX13_plays 24 = .ok (.iload_n 2, 1) := by decide +kernel
theorem dX13_plays_25 : decode cX13_plays 25 = .ok (.iconst (-1), 1) := by decide +kernel
theorem dX13_plays_26 : decode cX13_plays 26 = .ok (.if_icmp .eq 21, 3) := by decide +kernel
theorem dX13_plays_29 : decode cX13_plays 29 = .ok (.aload_n 0, 1) := by decide +kernel
theorem dX13_plays_30 : decode cX13_plays 30 = .ok (.getfield 23, 3) := by decide +kernel
theorem dX13_plays_33 : decode cX13_plays 33 = .ok (.iload_n 2, 1) := by decide +kernel
theorem dX13_plays_34 : decode cX13_plays 34 = .ok (.iaload, 1) := by decide +kernel
theorem dX13_plays_35 : decode cX13_plays 35 = .ok (.ifCond .eq 12, 3) := by decide +kernel
theorem dX13_plays_38 : decode cX13_plays 38 = .ok (.aload_n 0, 1) := by decide +kernel
theorem dX13_plays_39 : decode cX13_plays 39 = .ok (.invokevirtual 818, 3) := by decide +kernel
theorem dX13_plays_42 : decode cX13_plays 42 = .ok (.bipush 20, 2) := by decide +kernel
theorem dX13_plays_44 : decode cX13_plays 44 = .ok (.if_icmp .ne 5, 3) := by decide +kernel
theorem dX13_plays_47 : decode cX13_plays 47 = .ok (.iconst 0, 1) := by decide +kernel
theorem dX13_plays_48 : decode cX13_plays 48 = .ok (.ireturn, 1) := by decide +kernel
theorem dX13_plays_49 : decode cX13_plays 49 = .ok (.aload_n 0, 1) := by decide +kernel
theorem dX13_plays_50 : decode cX13_plays 50 = .ok (.iload_n 2, 1) := by decide +kernel
theorem dX13_plays_51 : decode cX13_plays 51 = .ok (.putfield 120, 3) := by decide +kernel
theorem dX13_plays_54 : decode cX13_plays 54 = .ok (.aload_n 0, 1) := by decide +kernel
theorem dX13_plays_55 : decode cX13_plays 55 = .ok (.iconst 0, 1) := by decide +kernel
theorem dX13_plays_56 : decode cX13_plays 56 = .ok (.putfield 244, 3) := by decide +kernel
theorem dX13_plays_59 : decode cX13_plays 59 = .ok (.aload_n 0, 1) := by decide +kernel
theorem dX13_plays_60 : decode cX13_plays 60 = .ok (.iconst 1, 1) := by decide +kernel
theorem dX13_plays_61 : decode cX13_plays 61 = .ok (.iload_n 1, 1) := by decide +kernel
theorem dX13_plays_62 : decode cX13_plays 62 = .ok (.invokevirtual 699, 3) := by decide +kernel
theorem dX13_plays_65 : decode cX13_plays 65 = .ok (.iconst 0, 1) := by decide +kernel
theorem dX13_plays_66 : decode cX13_plays 66 = .ok (.istore_n 3, 1) := by decide +kernel
theorem dX13_plays_67 : decode cX13_plays 67 = .ok (.iload_n 3, 1) := by decide +kernel
theorem dX13_plays_68 : decode cX13_plays 68 = .ok (.aload_n 0, 1) := by decide +kernel
theorem dX13_plays_69 : decode cX13_plays 69 = .ok (.getfield 26, 3) := by decide +kernel
theorem dX13_plays_72 : decode cX13_plays 72 = .ok (.iload_n 2, 1) := by decide +kernel
theorem dX13_plays_73 : decode cX13_plays 73 = .ok (.iaload, 1) := by decide +kernel
theorem dX13_plays_74 : decode cX13_plays 74 = .ok (.if_icmp .ge 41, 3) := by decide +kernel
theorem dX13_plays_77 : decode cX13_plays 77 = .ok (.aload_n 0, 1) := by decide +kernel
theorem dX13_plays_78 : decode cX13_plays 78 = .ok (.getfield 30, 3) := by decide +kernel
theorem dX13_plays_81 : decode cX13_plays 81 = .ok (.sipush 3000, 3) := by decide +kernel
theorem dX13_plays_84 : decode cX13_plays 84 = .ok (.iload_n 2, 1) := by decide +kernel
theorem dX13_plays_85 : decode cX13_plays 85 = .ok (.imul, 1) := by decide +kernel
theorem dX13_plays_86 : decode cX13_plays 86 = .ok (.iload_n 3, 1) := by decide +kernel
theorem dX13_plays_87 : decode cX13_plays 87 = .ok (.iadd, 1) := by decide +kernel
theorem dX13_plays_88 : decode cX13_plays 88 = .ok (.iaload, 1) := by decide +kernel
theorem dX13_plays_89 : decode cX13_plays 89 = .ok (.istore 4, 2) := by decide +kernel
theorem dX13_plays_91 : decode cX13_plays 91 = .ok (.aload_n 0, 1) := by decide +kernel
theorem dX13_plays_92 : decode cX13_plays 92 = .ok (.iload 4, 2) := by decide +kernel
theorem dX13_plays_94 : decode cX13_plays 94 = .ok (.bipush 10, 2) := by decide +kernel
theorem dX13_plays_96 : decode cX13_plays 96 = .ok (.if_icmp .ne 8, 3) := by decide +kernel
theorem dX13_plays_99 : decode cX13_plays 99 = .ok (.bipush 13, 2) := by decide +kernel
theorem dX13_plays_101 : decode cX13_plays 101 = .ok (.goto 5, 3) := by decide +kernel
theorem dX13_plays_104 : decode cX13_plays 104 = .ok (.iload 4, 2) := by decide +kernel
theorem dX13_plays_106 : decode cX13_plays 106 = .ok (.invokevirtual 702, 3) := by decide +kernel
theorem dX13_plays_109 : decode cX13_plays 109 = .ok (.iinc 3 1, 3) := by decide +kernel
theorem dX13_plays_112 : decode cX13_plays 112 = .ok (.goto (-45), 3) := by decide +kernel
theorem dX13_plays_115 : decode cX13_plays 115 = .ok (.iconst 1, 1) := by decide +kernel
theorem dX13_plays_116 : decode cX13_plays 116 = .ok (.ireturn, 1) := by decide +kernel
theorem dX13_isDigit_0 : decode cX13_isDigit 0 = .ok (.iload_n 0, 1) := by decide +kernel
theorem dX13_isDigit_1 : decode cX13_isDigit 1 = .ok (.bipush 48, 2) := by decide +kernel
theorem dX13_isDigit_3 : decode cX13_isDigit 3 = .ok (.bipush 57, 2) := by decide +kernel
theorem dX13_isDigit_5 : decode cX13_isDigit 5 = .ok (.invokestatic 198, 3) := by decide +kernel
theorem dX13_isDigit_8 : decode cX13_isDigit 8 = .ok (.ireturn, 1) := by decide +kernel
theorem dX13_heapsChange_0 : decode cX13_heapsChange 0 = .ok (.iconst 0, 1) := by decide +kernel
theorem dX13_heapsChange_1 : decode cX13_heapsChange 1 = .ok (.istore_n 2, 1) := by decide +kernel
theorem dX13_heapsChange_2 : decode cX13_heapsChange 2 = .ok (.aload_n 0, 1) := by decide +kernel
theorem dX13_heapsChange_3 : decode cX13_heapsChange 3 = .ok (.getfield 111, 3) := by decide +kernel
theorem dX13_heapsChange_6 : decode cX13_heapsChange 6 = .ok (.iconst 0, 1) := by decide +kernel
theorem dX13_heapsChange_7 : decode cX13_heapsChange 7 = .ok (.iaload, 1) := by decide +kernel
theorem dX13_heapsChange_8 : decode cX13_heapsChange 8 = .ok (.bipush 34, 2) := by decide +kernel
theorem dX13_heapsChange_10 : decode cX13_heapsChange 10 = .ok (.if_icmp .ne 48, 3) := by decide +kernel
theorem dX13_heapsChange_13 : decode cX13_heapsChange 13 = .ok (.aload_n 0, 1) := by decide +kernel
theorem dX13_heapsChange_14 : decode cX13_heapsChange 14 = .ok (.bipush 34, 2) := by decide +kernel
theorem dX13_heapsChange_16 : decode cX13_heapsChange 16 = .ok (.invokevirtual 702, 3) := by decide +kernel
theorem dX13_heapsChange_19 : decode cX13_heapsChange 19 = .ok (.aload_n 0, 1) := by decide +kernel
theorem dX13_heapsChange_20 : decode cX13_heapsChange 20 = .ok (.aload_n 0, 1) := by decide +kernel
theorem dX13_heapsChange_21 : decode cX13_heapsChange 21 = .ok (.getfield 111, 3) := by decide +kernel
theorem dX13_heapsChange_24 : decode cX13_heapsChange 24 = .ok (.iconst 1, 1) := by decide +kernel
theorem dX13_heapsChange_25 : decode cX13_heapsChange 25 = .ok (.iaload, 1) := by decide +kernel
theorem dX13_heapsChange_26 : decode cX13_heapsChange 26 = .ok (.bipush 49, 2) := by decide +kernel
theorem dX13_heapsChange_28 : decode cX13_heapsChange 28 = .ok (.bipush 56, 2) := by decide +kernel
theorem dX13_heapsChange_30 : decode cX13_heapsChange 30 = .ok (.invokestatic 198, 3) := by decide +kernel
theorem dX13_heapsChange_33 : decode cX13_heapsChange 33 = .ok (.ifCond .eq 14, 3) := by decide +kernel
theorem dX13_heapsChange_36 : decode cX13_heapsChange 36 = .ok (.aload_n 0, 1) := by decide +kernel
theorem dX13_heapsChange_37 : decode cX13_heapsChange 37 = .ok (.getfield 111, 3) := by decide +kernel
theorem dX13_heapsChange_40 : decode cX13_heapsChange 40 = .ok (.iconst 1, 1) := by decide +kernel
theorem dX13_heapsChange_41 : decode cX13_heapsChange 41 = .ok (.iaload, 1) := by decide +kernel
theorem dX13_heapsChange_42 : decode cX13_heapsChange 42 = .ok (.iconst 1, 1) := by decide +kernel
theorem dX13_heapsChange_43 : decode cX13_heapsChange 43 = .ok (.iadd, 1) := by decide +kernel
theorem dX13_heapsChange_44 : decode cX13_heapsChange 44 = .ok (.goto 9, 3) := by decide +kernel
theorem dX13_heapsChange_47 : decode cX13_heapsChange 47 = .ok (.aload_n 0, 1) := by decide +kernel
theorem dX13_heapsChange_48 : decode cX13_heapsChange 48 = .ok (.getfield 111, 3) := by decide +kernel
theorem dX13_heapsChange_51 : decode cX13_heapsChange 51 = .ok (.iconst 1, 1) := by decide +kernel
theorem dX13_heapsChange_52 : decode cX13_heapsChange 52 = .ok (.iaload, 1) := by decide +kernel
theorem dX13_heapsChange_53 : decode cX13_heapsChange 53 = .ok (.invokevirtual 702, 3) := by decide +kernel
theorem dX13_heapsChange_56 : decode cX13_heapsChange 56 = .ok (.iconst 2, 1) := by decide +kernel
theorem dX13_heapsChange_57 : decode cX13_heapsChange 57 = .ok (.istore_n 2, 1) := by decide +kernel
theorem dX13_heapsChange_58 : decode cX13_heapsChange 58 = .ok (.iload_n 1, 1) := by decide +kernel
theorem dX13_heapsChange_59 : decode cX13_heapsChange 59 = .ok (.bipush 9, 2) := by decide +kernel
theorem dX13_heapsChange_61 : decode cX13_heapsChange 61 = .ok (.if_icmp .le 14, 3) := by decide +kernel
theorem dX13_heapsChange_64 : decode cX13_heapsChange 64 = .ok (.aload_n 0, 1) := by decide +kernel
theorem dX13_heapsChange_65 : decode cX13_heapsChange 65 = .ok (.bipush 48, 2) := by decide +kernel
theorem dX13_heapsChange_67 : decode cX13_heapsChange 67 = .ok (.iload_n 1, 1) := by decide +kernel
theorem dX13_heapsChange_68 : decode cX13_heapsChange 68 = .ok (.bipush 10, 2) := by decide +kernel
theorem dX13_heapsChange_70 : decode cX13_heapsChange 70 = .ok (.idiv, 1) := by decide +kernel
theorem dX13_heapsChange_71 : decode cX13_heapsChange 71 = .ok (.iadd, 1) := by decide +kernel
theorem dX13_heapsChange_72 : decode cX13_heapsChange 72 = .ok (.invokevirtual 702, 3) := by decide +kernel
theorem dX13_heapsChange_75 : decode cX13_heapsChange 75 = .ok (.iload_n 1, 1) := by decide +kernel
theorem dX13_heapsChange_76 : decode cX13_heapsChange 76 = .ok (.ifCond .le 14, 3) := by decide +kernel
theorem dX13_heapsChange_79 : decode cX13_heapsChange 79 = .ok (.aload_n 0, 1) := by decide +kernel
theorem dX13_heapsChange_80 : decode cX13_heapsChange 80 = .ok (.bipush 48, 2) := by decide +kernel
theorem dX13_heapsChange_82 : decode cX13_heapsChange 82 = .ok (.iload_n 1, 1) := by decide +kernel
theorem dX13_heapsChange_83 : decode cX13_heapsChange 83 = .ok (.bipush 10, 2) := by decide +kernel
theorem dX13_heapsChange_85 : decode cX13_heapsChange 85 = .ok (.irem, 1) := by decide +kernel
theorem dX13_heapsChange_86 : decode cX13_heapsChange 86 = .ok (.iadd, 1) := by decide +kernel
theorem dX13_heapsChange_87 : decode cX13_heapsChange 87 = .ok (.invokevirtual 702, 3) := by decide +kernel
theorem dX13_heapsChange_90 : decode cX13_heapsChange 90 = .ok (.aload_n 0, 1) := by decide +kernel
theorem dX13_heapsChange_91 : decode cX13_heapsChange 91 = .ok (.getfield 111, 3) := by decide +kernel
theorem dX13_heapsChange_94 : decode cX13_heapsChange 94 = .ok (.iload_n 2, 1) := by decide +kernel
theorem dX13_heapsChange_95 : decode cX13_heapsChange 95 = .ok (.iaload, 1) := by decide +kernel
theorem dX13_heapsChange_96 : decode cX13_heapsChange 96 = .ok (.bipush 48, 2) := by decide +kernel
theorem dX13_heapsChange_98 : decode cX13_heapsChange 98 = .ok (.if_icmp .eq 19, 3) := by decide +kernel
theorem dX13_heapsChange_101 : decode cX13_heapsChange 101 = .ok (.aload_n 0, 1) := by decide +kernel
theorem dX13_heapsChange_102 : decode cX13_heapsChange 102 = .ok (.getfield 111, 3) := by decide +kernel
theorem dX13_heapsChange_105 : decode cX13_heapsChange 105 = .ok (.iload_n 2, 1) := by decide +kernel
theorem dX13_heapsChange_106 : decode cX13_heapsChange 106 = .ok (.iaload, 1) := by decide +kernel
theorem dX13_heapsChange_107 : decode cX13_heapsChange 107 = .ok (.invokestatic 822, 3) := by decide +kernel
theorem dX13_heapsChange_110 : decode cX13_heapsChange 110 = .ok (.ifCond .eq 7, 3) := by decide +kernel
theorem dX13_heapsChange_113 : decode cX13_heapsChange 113 = .ok (.iconst 1, 1) := by decide +kernel
theorem dX13_heapsChange_114 : decode cX13_heapsChange 114 = .ok (.goto 4, 3) := by decide +kernel
theorem dX13_heapsChange_117 : decode cX13_heapsChange 117 = .ok (.iconst 0, 1) := by decide +kernel
theorem dX13_heapsChange_118 : decode cX13_heapsChange 118 = .ok (.istore_n 3, 1) := by decide +kernel
theorem dX13_heapsChange_119 : decode cX13_heapsChange 119 = .ok (.iload_n 3, 1) := by decide +kernel
theorem dX13_heapsChange_120 : decode cX13_heapsChange 120 = .ok (.ifCond .eq 35, 3) := by decide +kernel
theorem dX13_heapsChange_123 : decode cX13_heapsChange 123 = .ok (.aload_n 0, 1) := by decide +kernel
theorem dX13_heapsChange_124 : decode cX13_heapsChange 124 = .ok (.getfield 111, 3) := by decide +kernel
theorem dX13_heapsChange_127 : decode cX13_heapsChange 127 = .ok (.iload_n 2, 1) := by decide +kernel
theorem dX13_heapsChange_128 : decode cX13_heapsChange 128 = .ok (.iaload, 1) := by decide +kernel
theorem dX13_heapsChange_129 : decode cX13_heapsChange 129 = .ok (.invokestatic 822, 3) := by decide +kernel
theorem dX13_heapsChange_132 : decode cX13_heapsChange 132 = .ok (.ifCond .eq 23, 3) := by decide +kernel
theorem dX13_heapsChange_135 : decode cX13_heapsChange 135 = .ok (.iload_n 1, 1) := by decide +kernel
theorem dX13_heapsChange_136 : decode cX13_heapsChange 136 = .ok (.ifCond .ne 13, 3) := by decide +kernel
theorem dX13_heapsChange_139 : decode cX13_heapsChange 139 = .ok (.aload_n 0, 1) := by decide +kernel
theorem dX13_heapsChange_140 : decode cX13_heapsChange 140 = .ok (.aload_n 0, 1) := by decide +kernel
theorem dX13_heapsChange_141 : decode cX13_heapsChange 141 = .ok (.getfield 111, 3) := by decide +kernel
theorem dX13_heapsChange_144 : decode cX13_heapsChange 144 = .ok (.iload_n 2, 1) := by decide +kernel
theorem dX13_heapsChange_145 : decode cX13_heapsChange 145 = .ok (.iaload, 1) := by decide +kernel
theorem dX13_heapsChange_146 : decode cX13_heapsChange 146 = .ok (.invokevirtual 702, 3) := by decide +kernel
theorem dX13_heapsChange_149 : decode cX13_heapsChange 149 = .ok (.iinc 2 1, 3) := by decide +kernel
theorem dX13_heapsChange_152 : decode cX13_heapsChange 152 = .ok (.goto (-33), 3) := by decide +kernel
theorem dX13_heapsChange_155 : decode cX13_heapsChange 155 = .ok (.aload_n 0, 1) := by decide +kernel
theorem dX13_heapsChange_156 : decode cX13_heapsChange 156 = .ok (.getfield 111, 3) := by decide +kernel
theorem dX13_heapsChange_159 : decode cX13_heapsChange 159 = .ok (.iload_n 2, 1) := by decide +kernel
theorem dX13_heapsChange_160 : decode cX13_heapsChange 160 = .ok (.iaload, 1) := by decide +kernel
theorem dX13_heapsChange_161 : decode cX13_heapsChange 161 = .ok (.bipush 103, 2) := by decide +kernel
theorem dX13_heapsChange_163 : decode cX13_heapsChange 163 = .ok (.if_icmp .eq 14, 3) := by decide +kernel
theorem dX13_heapsChange_166 : decode cX13_heapsChange 166 = .ok (.aload_n 0, 1) := by decide +kernel
theorem dX13_heapsChange_167 : decode cX13_heapsChange 167 = .ok (.getfield 111, 3) := by decide +kernel
theorem dX13_heapsChange_170 : decode cX13_heapsChange 170 = .ok (.iload_n 2, 1) := by decide +kernel
theorem dX13_heapsChange_171 : decode cX13_heapsChange 171 = .ok (.iaload, 1) := by decide +kernel
theorem dX13_heapsChange_172 : decode cX13_heapsChange 172 = .ok (.bipush 122, 2) := by decide +kernel
theorem dX13_heapsChange_174 : decode cX13_heapsChange 174 = .ok (.if_icmp .ne 35, 3) := by decide +kernel
theorem dX13_heapsChange_177 : decode cX13_heapsChange 177 = .ok (.aload_n 0, 1) := by decide +kernel
theorem dX13_heapsChange_178 : decode cX13_heapsChange 178 = .ok (.getfield 111, 3) := by decide +kernel
theorem dX13_heapsChange_181 : decode cX13_heapsChange 181 = .ok (.iload_n 2, 1) := by decide +kernel
theorem dX13_heapsChange_182 : decode cX13_heapsChange 182 = .ok (.iaload, 1) := by decide +kernel
theorem dX13_heapsChange_183 : decode cX13_heapsChange 183 = .ok (.bipush 103, 2) := by decide +kernel
theorem dX13_heapsChange_185 : decode cX13_heapsChange 185 = .ok (.if_icmp .ne 9, 3) := by decide +kernel
theorem dX13_heapsChange_188 : decode cX13_heapsChange 188 = .ok (.sipush 256, 3) := by decide +kernel
theorem dX13_heapsChange_191 : decode cX13_heapsChange 191 = .ok (.goto 6, 3) := by decide +kernel
theorem dX13_heapsChange_194 : decode cX13_heapsChange 194 = .ok (.sipush 512, 3) := by decide +kernel
theorem dX13_heapsChange_197 : decode cX13_heapsChange 197 = .ok (.aload_n 0, 1) := by decide +kernel
theorem dX13_heapsChange_198 : decode cX13_heapsChange 198 = .ok (.getfield 111, 3) := by decide +kernel
theorem dX13_heapsChange_201 : decode cX13_heapsChange 201 = .ok (.iload_n 2, 1) := by decide +kernel
theorem dX13_heapsChange_202 : decode cX13_heapsChange 202 = .ok (.iconst 1, 1) := by decide +kernel
theorem dX13_heapsChange_203 : decode cX13_heapsChange 203 = .ok (.iadd, 1) := by decide +kernel
theorem dX13_heapsChange_204 : decode cX13_heapsChange 204 = .ok (.iaload, 1) := by decide +kernel
theorem dX13_heapsChange_205 : decode cX13_heapsChange 205 = .ok (.iadd, 1) := by decide +kernel
theorem dX13_heapsChange_206 : decode cX13_heapsChange 206 = .ok (.goto 9, 3) := by decide +kernel
theorem dX13_heapsChange_209 : decode cX13_heapsChange 209 = .ok (.aload_n 0, 1) := by decide +kernel
theorem dX13_heapsChange_210 : decode cX13_heapsChange 210 = .ok (.getfield 111, 3) := by decide +kernel
theorem dX13_heapsChange_213 : decode cX13_heapsChange 213 = .ok (.iload_n 2, 1) := by decide +kernel
theorem dX13_heapsChange_214 : decode cX13_heapsChange 214 = .ok (.iaload, 1) := by decide +kernel
theorem dX13_heapsChange_215 : decode cX13_heapsChange 215 = .ok (.istore 4, 2) := by decide +kernel
theorem dX13_heapsChange_217 : decode cX13_heapsChange 217 = .ok (.iload 4, 2) := by decide +kernel
theorem dX13_heapsChange_219 : decode cX13_heapsChange 219 = .ok (.invokestatic 603, 3) := by decide +kernel
theorem dX13_heapsChange_222 : decode cX13_heapsChange 222 = .ok (.ifCond .eq 104, 3) := by decide +kernel
theorem dX13_heapsChange_225 : decode cX13_heapsChange 225 = .ok (.aload_n 0, 1) := by decide +kernel
theorem dX13_heapsChange_226 : decode cX13_heapsChange 226 = .ok (.aload_n 0, 1) := by decide +kernel
theorem dX13_heapsChange_227 : decode cX13_heapsChange 227 = .ok (.getfield 111, 3) := by decide +kernel
theorem dX13_heapsChange_230 : decode cX13_heapsChange 230 = .ok (.iload_n 2, 1) := by decide +kernel
theorem dX13_heapsChange_231 : decode cX13_heapsChange 231 = .ok (.iaload, 1) := by decide +kernel
theorem dX13_heapsChange_232 : decode cX13_heapsChange 232 = .ok (.invokevirtual 702, 3) := by decide +kernel
theorem dX13_heapsChange_235 : decode cX13_heapsChange 235 = .ok (.iinc 2 1, 3) := by decide +kernel
theorem dX13_heapsChange_238 : decode cX13_heapsChange 238 = .ok (.iload 4, 2) := by decide +kernel
theorem dX13_heapsChange_240 : decode cX13_heapsChange 240 = .ok (.sipush 256, 3) := by decide +kernel
theorem dX13_heapsChange_243 : decode cX13_heapsChange 243 = .ok (.if_icmp .le 16, 3) := by decide +kernel
theorem dX13_heapsChange_246 : decode cX13_heapsChange 246 = .ok (.aload_n 0, 1) := by decide +kernel
theorem dX13_heapsChange_247 : decode cX13_heapsChange 247 = .ok (.aload_n 0, 1) := by decide +kernel
theorem dX13_heapsChange_248 : decode cX13_heapsChange 248 = .ok (.getfield 111, 3) := by decide +kernel
theorem dX13_heapsChange_251 : decode cX13_heapsChange 251 = .ok (.iload_n 2, 1) := by decide +kernel
theorem dX13_heapsChange_252 : decode cX13_heapsChange 252 = .ok (.iaload, 1) := by decide +kernel
theorem dX13_heapsChange_253 : decode cX13_heapsChange 253 = .ok (.invokevirtual 702, 3) := by decide +kernel
theorem dX13_heapsChange_256 : decode cX13_heapsChange 256 = .ok (.iinc 2 1, 3) := by decide +kernel
theorem dX13_heapsChange_259 : decode cX13_heapsChange 259 = .ok (.aload_n 0, 1) := by decide +kernel
theorem dX13_heapsChange_260 : decode cX13_heapsChange 260 = .ok (.getfield 111, 3) := by decide +kernel
theorem dX13_heapsChange_263 : decode cX13_heapsChange 263 = .ok (.iload_n 2, 1) := by decide +kernel
theorem dX13_heapsChange_264 : decode cX13_heapsChange 264 = .ok (.iaload, 1) := by decide +kernel
theorem dX13_heapsChange_265 : decode cX13_heapsChange 265 = .ok (.bipush 48, 2) := by decide +kernel
theorem dX13_heapsChange_267 : decode cX13_heapsChange 267 = .ok (.if_icmp .eq 19, 3) := by decide +kernel
theorem dX13_heapsChange_270 : decode cX13_heapsChange 270 = .ok (.aload_n 0, 1) := by decide +kernel
theorem dX13_heapsChange_271 : decode cX13_heapsChange 271 = .ok (.getfield 111, 3) := by decide +kernel
theorem dX13_heapsChange_274 : decode cX13_heapsChange 274 = .ok (.iload_n 2, 1) := by decide +kernel
theorem dX13_heapsChange_275 : decode cX13_heapsChange 275 = .ok (.iaload, 1) := by decide +kernel
theorem dX13_heapsChange_276 : decode cX13_heapsChange 276 = .ok (.invokestatic 822, 3) := by decide +kernel
theorem dX13_heapsChange_279 : decode cX13_heapsChange 279 = .ok (.ifCond .eq 7, 3) := by decide +kernel
theorem dX13_heapsChange_282 : decode cX13_heapsChange 282 = .ok (.iconst 1, 1) := by decide +kernel
theorem dX13_heapsChange_283 : decode cX13_heapsChange 283 = .ok (.goto 4, 3) := by decide +kernel
theorem dX13_heapsChange_286 : decode cX13_heapsChange 286 = .ok (.iconst 0, 1) := by decide +kernel
theorem dX13_heapsChange_287 : decode cX13_heapsChange 287 = .ok (.istore 5, 2) := by decide +kernel
theorem dX13_heapsChange_289 : decode cX13_heapsChange 289 = .ok (.iload 5, 2) := by decide +kernel
theorem dX13_heapsChange_291 : decode cX13_heapsChange 291 = .ok (.ifCond .eq 35, 3) := by decide +kernel
theorem dX13_heapsChange_294 : decode cX13_heapsChange 294 = .ok (.aload_n 0, 1) := by decide +kernel
theorem dX13_heapsChange_295 : decode cX13_heapsChange 295 = .ok (.getfield 111, 3) := by decide +kernel
theorem dX13_heapsChange_298 : decode cX13_heapsChange 298 = .ok (.iload_n 2, 1) := by decide +kernel
theorem dX13_heapsChange_299 : decode cX13_heapsChange 299 = .ok (.iaload, 1) := by decide +kernel
theorem dX13_heapsChange_300 : decode cX13_heapsChange 300 = .ok (.invokestatic 822, 3) := by decide +kernel
theorem dX13_heapsChange_303 : decode cX13_heapsChange 303 = .ok (.ifCond .eq 23, 3) := by decide +kernel
theorem dX13_heapsChange_306 : decode cX13_heapsChange 306 = .ok (.iload_n 1, 1) := by decide +kernel
theorem dX13_heapsChange_307 : decode cX13_heapsChange 307 = .ok (.ifCond .ne 13, 3) := by decide +kernel
theorem dX13_heapsChange_310 : decode cX13_heapsChange 310 = .ok (.aload_n 0, 1) := by decide +kernel
theorem dX13_heapsChange_311 : decode cX13_heapsChange 311 = .ok (.aload_n 0, 1) := by decide +kernel
theorem dX13_heapsChange_312 : decode cX13_heapsChange 312 = .ok (.getfield 111, 3) := by decide +kernel
theorem dX13_heapsChange_315 : decode cX13_heapsChange 315 = .ok (.iload_n 2, 1) := by decide +kernel
theorem dX13_heapsChange_316 : decode cX13_heapsChange 316 = .ok (.iaload, 1) := by decide +kernel
theorem dX13_heapsChange_317 : decode cX13_heapsChange 317 = .ok (.invokevirtual 702, 3) := by decide +kernel
theorem dX13_heapsChange_320 : decode cX13_heapsChange 320 = .ok (.iinc 2 1, 3) := by decide +kernel
theorem dX13_heapsChange_323 : decode cX13_heapsChange 323 = .ok (.goto (-34), 3) := by decide +kernel
theorem dX13_heapsChange_326 : decode cX13_heapsChange 326 = .ok (.iload_n 2, 1) := by decide +kernel
theorem dX13_heapsChange_327 : decode cX13_heapsChange 327 = .ok (.aload_n 0, 1) := by decide +kernel
theorem dX13_heapsChange_328 : decode cX13_heapsChange 328 = .ok (.getfield 693, 3) := by decide +kernel
theorem dX13_heapsChange_331 : decode cX13_heapsChange 331 = .ok (.if_icmp .ge 19, 3) := by decide +kernel
theorem dX13_heapsChange_334 : decode cX13_heapsChange 334 = .ok (.aload_n 0, 1) := by decide +kernel
theorem dX13_heapsChange_335 : decode cX13_heapsChange 335 = .ok (.aload_n 0, 1) := by decide +kernel
theorem dX13_heapsChange_336 : decode cX13_heapsChange 336 = .ok (.getfield 111, 3) := by decide +kernel
theorem dX13_heapsChange_339 : decode cX13_heapsChange 339 = .ok (.iload_n 2, 1) := by decide +kernel
theorem dX13_heapsChange_340 : decode cX13_heapsChange 340 = .ok (.iaload, 1) := by decide +kernel
theorem dX13_heapsChange_341 : decode cX13_heapsChange 341 = .ok (.invokevirtual 702, 3) := by decide +kernel
theorem dX13_heapsChange_344 : decode cX13_heapsChange 344 = .ok (.iinc 2 1, 3) := by decide +kernel
theorem dX13_heapsChange_347 : decode cX13_heapsChange 347 = .ok (.goto (-21), 3) := by decide +kernel
theorem dX13_heapsChange_350 : decode cX13_heapsChange 350 = .ok (.return_, 1) := by decide +kernel
theorem dX13_repeatsChange_0 : decode cX13_repeatsChange 0 = .ok (.aload_n 0, 1) := by decide +kernel
theorem dX13_repeatsChange_1 : decode cX13_repeatsChange 1 = .ok (.getfield 693, 3) := by decide +kernel
theorem dX13_repeatsChange_4 : decode cX13_repeatsChange 4 = .ok (.ifCond .eq 12, 3) := by decide +kernel
theorem dX13_repeatsChange_7 : decode cX13_repeatsChange 7 = .ok (.aload_n 0, 1) := by decide +kernel
theorem dX13_repeatsChange_8 : decode cX13_repeatsChange 8 = .ok (.invokevirtual 818, 3) := by decide +kernel
theorem dX13_repeatsChange_11 : decode cX13_repeatsChange 11 = .ok (.bipush 20, 2) := by decide +kernel
theorem dX13_repeatsChange_13 : decode cX13_repeatsChange 13 = .ok (.if_icmp .ne 5, 3) := by decide +kernel
theorem dX13_repeatsChange_16 : decode cX13_repeatsChange 16 = .ok (.iconst 0, 1) := by decide +kernel
theorem dX13_repeatsChange_17 : decode cX13_repeatsChange 17 = .ok (.ireturn, 1) := by decide +kernel
theorem dX13_repeatsChange_18 : decode cX13_repeatsChange 18 = .ok (.aload_n 0, 1) := by decide +kernel
theorem dX13_repeatsChange_19 : decode cX13_repeatsChange 19 = .ok (.getfield 654, 3) := by decide +kernel
theorem dX13_repeatsChange_22 : decode cX13_repeatsChange 22 = .ok (.istore_n 1, 1) := by decide +kernel
theorem dX13_repeatsChange_23 : decode cX13_repeatsChange 23 = .ok (.aload_n 0, 1) := by decide +kernel
theorem dX13_repeatsChange_24 : decode cX13_repeatsChange 24 = .ok (.iconst 0, 1) := by decide +kernel
theorem dX13_repeatsChange_25 : decode cX13_repeatsChange 25 = .ok (.putfield 244, 3) := by decide +kernel
theorem dX13_repeatsChange_28 : decode cX13_repeatsChange 28 = .ok (.aload_n 0, 1) := by decide +kernel
theorem dX13_repeatsChange_29 : decode cX13_repeatsChange 29 = .ok (.iconst 2, 1) := by decide +kernel
theorem dX13_repeatsChange_30 : decode cX13_repeatsChange 30 = .ok (.iconst 1, 1) := by decide +kernel
theorem dX13_repeatsChange_31 : decode cX13_repeatsChange 31 = .ok (.invokevirtual 699, 3) := by decide +kernel
theorem dX13_repeatsChange_34 : decode cX13_repeatsChange 34 = .ok (.aload_n 0, 1) := by decide +kernel
theorem dX13_repeatsChange_35 : decode cX13_repeatsChange 35 = .ok (.iload_n 1, 1) := by decide +kernel
theorem dX13_repeatsChange_36 : decode cX13_repeatsChange 36 = .ok (.invokevirtual 825, 3) := by decide +kernel
theorem dX13_repeatsChange_39 : decode cX13_repeatsChange 39 = .ok (.iconst 1, 1) := by decide +kernel
theorem dX13_repeatsChange_40 : decode cX13_repeatsChange 40 = .ok (.ireturn, 1) := by decide +kernel
theorem dX13_putsKey_0 : decode cX13_putsKey 0 = .ok (.aload_n 0, 1) := by decide +kernel
theorem dX13_putsKey_1 : decode cX13_putsKey 1 = .ok (.getfield 83, 3) := by decide +kernel
theorem dX13_putsKey_4 : decode cX13_putsKey 4 = .ok (.iconst 0, 1) := by decide +kernel
theorem dX13_putsKey_5 : decode cX13_putsKey 5 = .ok (.iload_n 1, 1) := by decide +kernel
theorem dX13_putsKey_6 : decode cX13_putsKey 6 = .ok (.iastore, 1) := by decide +kernel
theorem dX13_putsKey_7 : decode cX13_putsKey 7 = .ok (.aload_n 0, 1) := by decide +kernel
theorem dX13_putsKey_8 : decode cX13_putsKey 8 = .ok (.aload_n 0, 1) := by decide +kernel
theorem dX13_putsKey_9 : decode cX13_putsKey 9 = .ok (.getfield 213, 3) := by decide +kernel
theorem dX13_putsKey_12 : decode cX13_putsKey 12 = .ok (.aload_n 0, 1) := by decide +kernel
theorem dX13_putsKey_13 : decode cX13_putsKey 13 = .ok (.getfield 216, 3) := by decide +kernel
theorem dX13_putsKey_16 : decode cX13_putsKey 16 = .ok (.iconst 1, 1) := by decide +kernel
theorem dX13_putsKey_17 : decode cX13_putsKey 17 = .ok (.invokevirtual 557, 3) := by decide +kernel
theorem dX13_putsKey_20 : decode cX13_putsKey 20 = .ok (.ifCond .eq 28, 3) := by decide +kernel
theorem dX13_putsKey_23 : decode cX13_putsKey 23 = .ok (.aload_n 0, 1) := by decide +kernel
theorem dX13_putsKey_24 : decode cX13_putsKey 24 = .ok (.aload_n 0, 1) := by decide +kernel
theorem dX13_putsKey_25 : decode cX13_putsKey 25 = .ok (.getfield 213, 3) := by decide +kernel
theorem dX13_putsKey_28 : decode cX13_putsKey 28 = .ok (.aload_n 0, 1) := by decide +kernel
theorem dX13_putsKey_29 : decode cX13_putsKey 29 = .ok (.getfield 216, 3) := by decide +kernel
theorem dX13_putsKey_32 : decode cX13_putsKey 32 = .ok (.iconst 1, 1) := by decide +kernel
theorem dX13_putsKey_33 : decode cX13_putsKey 33 = .ok (.invokevirtual 513, 3) := by decide +kernel
theorem dX13_putsKey_36 : decode cX13_putsKey 36 = .ok (.aload_n 0, 1) := by decide +kernel
theorem dX13_putsKey_37 : decode cX13_putsKey 37 = .ok (.aload_n 0, 1) := by decide +kernel
theorem dX13_putsKey_38 : decode cX13_putsKey 38 = .ok (.getfield 281, 3) := by decide +kernel
theorem dX13_putsKey_41 : decode cX13_putsKey 41 = .ok (.aload_n 0, 1) := by decide +kernel
theorem dX13_putsKey_42 : decode cX13_putsKey 42 = .ok (.getfield 284, 3) := by decide +kernel
theorem dX13_putsKey_45 : decode cX13_putsKey 45 = .ok (.invokevirtual 226, 3) := by decide +kernel
theorem dX13_putsKey_48 : decode cX13_putsKey 48 = .ok (.return_, 1) := by decide +kernel
theorem dX13_endsInsertion_0 : decode cX13_endsInsertion 0 = .ok (.iconst 0, 1) := by decide +kernel
theorem dX13_endsInsertion_1 : decode cX13_endsInsertion 1 = .ok (.istore_n 1, 1) := by decide +kernel
theorem dX13_endsInsertion_2 : decode cX13_endsInsertion 2 = .ok (.aload_n 0, 1) := by decide +kernel
theorem dX13_endsInsertion_3 : decode cX13_endsInsertion 3 = .ok (.getfield 469, 3) := by decide +kernel
theorem dX13_endsInsertion_6 : decode cX13_endsInsertion 6 = .ok (.istore_n 2, 1) := by decide +kernel
theorem dX13_endsInsertion_7 : decode cX13_endsInsertion 7 = .ok (.iload_n 2, 1) := by decide +kernel
theorem dX13_endsInsertion_8 : decode cX13_endsInsertion 8 = .ok (.aload_n 0, 1) := by decide +kernel
theorem dX13_endsInsertion_9 : decode cX13_endsInsertion 9 = .ok (.getfield 213, 3) := by decide +kernel
theorem dX13_endsInsertion_12 : decode cX13_endsInsertion 12 = .ok (.if_icmp .gt 104, 3) := by decide +kernel
theorem dX13_endsInsertion_15 : decode cX13_endsInsertion 15 = .ok (.aload_n 0, 1) := by decide +kernel
theorem dX13_endsInsertion_16 : decode cX13_endsInsertion 16 = .ok (.getfield 475, 3) := by decide +kernel
theorem dX13_endsInsertion_19 : decode cX13_endsInsertion 19 = .ok (.iconst 1, 1) := by decide +kernel
theorem dX13_endsInsertion_20 : decode cX13_endsInsertion 20 = .ok (.if_icmp .le 96, 3) := by decide +kernel
theorem dX13_endsInsertion_23 : decode cX13_endsInsertion 23 = .ok (.iload_n 2, 1) := by decide +kernel
theorem dX13_endsInsertion_24 : decode cX13_endsInsertion 24 = .ok (.aload_n 0, 1) := by decide +kernel
theorem dX13_endsInsertion_25 : decode cX13_endsInsertion 25 = .ok (.getfield 213, 3) := by decide +kernel
theorem dX13_endsInsertion_28 : decode cX13_endsInsertion 28 = .ok (.if_icmp .ne 10, 3) := by decide +kernel
theorem dX13_endsInsertion_31 : decode cX13_endsInsertion 31 = .ok (.aload_n 0, 1) := by decide +kernel
theorem dX13_endsInsertion_32 : decode cX13_endsInsertion 32 = .ok (.getfield 216, 3) := by decide +kernel
theorem dX13_endsInsertion_35 : decode cX13_endsInsertion 35 = .ok (.goto 9, 3) := by decide +kernel
theorem dX13_endsInsertion_38 : decode cX13_endsInsertion 38 = .ok (.aload_n 0, 1) := by decide +kernel
theorem dX13_endsInsertion_39 : decode cX13_endsInsertion 39 = .ok (.getfield 17, 3) := by decide +kernel
theorem dX13_endsInsertion_42 : decode cX13_endsInsertion 42 = .ok (.iload_n 2, 1) := by decide +kernel
theorem dX13_endsInsertion_43 : decode cX13_endsInsertion 43 = .ok (.iaload, 1) := by decide +kernel
theorem dX13_endsInsertion_44 : decode cX13_endsInsertion 44 = .ok (.istore_n 3, 1) := by decide +kernel
theorem dX13_endsInsertion_45 : decode cX13_endsInsertion 45 = .ok (.iload_n 2, 1) := by decide +kernel
theorem dX13_endsInsertion_46 : decode cX13_endsInsertion 46 = .ok (.aload_n 0, 1) := by decide +kernel
theorem dX13_endsInsertion_47 : decode cX13_endsInsertion 47 = .ok (.getfield 469, 3) := by decide +kernel
theorem dX13_endsInsertion_50 : decode cX13_endsInsertion 50 = .ok (.if_icmp .ne 10, 3) := by decide +kernel
theorem dX13_endsInsertion_53 : decode cX13_endsInsertion 53 = .ok (.aload_n 0, 1) := by decide +kernel
theorem dX13_endsInsertion_54 : decode cX13_endsInsertion 54 = .ok (.getfield 472, 3) := by decide +kernel
theorem dX13_endsInsertion_57 : decode cX13_endsInsertion 57 = .ok (.goto 4, 3) := by decide +kernel
theorem dX13_endsInsertion_60 : decode cX13_endsInsertion 60 = .ok (.iconst 0, 1) := by decide +kernel
theorem dX13_endsInsertion_61 : decode cX13_endsInsertion 61 = .ok (.istore 4, 2) := by decide +kernel
theorem dX13_endsInsertion_63 : decode cX13_endsInsertion 63 = .ok (.iload 4, 2) := by decide +kernel
theorem dX13_endsInsertion_65 : decode cX13_endsInsertion 65 = .ok (.iload_n 3, 1) := by decide +kernel
theorem dX13_endsInsertion_66 : decode cX13_endsInsertion 66 = .ok (.if_icmp .ge 25, 3) := by decide +kernel
theorem dX13_endsInsertion_69 : decode cX13_endsInsertion 69 = .ok (.aload_n 0, 1) := by decide +kernel
theorem dX13_endsInsertion_70 : decode cX13_endsInsertion 70 = .ok (.getfield 83, 3) := by decide +kernel
theorem dX13_endsInsertion_73 : decode cX13_endsInsertion 73 = .ok (.iload_n 1, 1) := by decide +kernel
theorem dX13_endsInsertion_74 : decode cX13_endsInsertion 74 = .ok (.aload_n 0, 1) := by decide +kernel
theorem dX13_endsInsertion_75 : decode cX13_endsInsertion 75 = .ok (.iload_n 2, 1) := by decide +kernel
theorem dX13_endsInsertion_76 : decode cX13_endsInsertion 76 = .ok (.iload 4, 2) := by decide +kernel
theorem dX13_endsInsertion_78 : decode cX13_endsInsertion 78 = .ok (.invokevirtual 206, 3) := by decide +kernel
theorem dX13_endsInsertion_81 : decode cX13_endsInsertion 81 = .ok (.iastore, 1) := by decide +kernel
theorem dX13_endsInsertion_82 : decode cX13_endsInsertion 82 = .ok (.iinc 1 1, 3) := by decide +kernel
theorem dX13_endsInsertion_85 : decode cX13_endsInsertion 85 = .ok (.iinc 4 1, 3) := by decide +kernel
theorem dX13_endsInsertion_88 : decode cX13_endsInsertion 88 = .ok (.goto (-25), 3) := by decide +kernel
theorem dX13_endsInsertion_91 : decode cX13_endsInsertion 91 = .ok (.iload_n 2, 1) := by decide +kernel
theorem dX13_endsInsertion_92 : decode cX13_endsInsertion 92 = .ok (.aload_n 0, 1) := by decide +kernel
theorem dX13_endsInsertion_93 : decode cX13_endsInsertion 93 = .ok (.getfield 213, 3) := by decide +kernel
theorem dX13_endsInsertion_96 : decode cX13_endsInsertion 96 = .ok (.if_icmp .ge 14, 3) := by decide +kernel
theorem dX13_endsInsertion_99 : decode cX13_endsInsertion 99 = .ok (.aload_n 0, 1) := by decide +kernel
theorem dX13_endsInsertion_100 : decode cX13_endsInsertion 100 = .ok (.getfield 83, 3) := by decide +kernel
theorem dX13_endsInsertion_103 : decode cX13_endsInsertion 103 = .ok (.iload_n 1, 1) := by decide +kernel
theorem dX13_endsInsertion_104 : decode cX13_endsInsertion 104 = .ok (.bipush 10, 2) := by decide +kernel
theorem dX13_endsInsertion_106 : decode cX13_endsInsertion 106 = .ok (.iastore, 1) := by decide +kernel
theorem dX13_endsInsertion_107 : decode cX13_endsInsertion 107 = .ok (.iinc 1 1, 3) := by decide +kernel
theorem dX13_endsInsertion_110 : decode cX13_endsInsertion 110 = .ok (.iinc 2 1, 3) := by decide +kernel
theorem dX13_endsInsertion_113 : decode cX13_endsInsertion 113 = .ok (.goto (-106), 3) := by decide +kernel
theorem dX13_endsInsertion_116 : decode cX13_endsInsertion 116 = .ok (.iload_n 1, 1) := by decide +kernel
theorem dX13_endsInsertion_117 : decode cX13_endsInsertion 117 = .ok (.istore_n 2, 1) := by decide +kernel
theorem dX13_endsInsertion_118 : decode cX13_endsInsertion 118 = .ok (.iload_n 1, 1) := by decide +kernel
theorem dX13_endsInsertion_119 : decode cX13_endsInsertion 119 = .ok (.ifCond .le 7, 3) := by decide +kernel
theorem dX13_endsInsertion_122 : decode cX13_endsInsertion 122 = .ok (.iconst 1, 1) := by decide +kernel
theorem dX13_endsInsertion_123 : decode cX13_endsInsertion 123 = .ok (.goto 4, 3) := by decide +kernel
theorem dX13_endsInsertion_126 : decode cX13_endsInsertion 126 = .ok (.iconst 0, 1) := by decide +kernel
theorem dX13_endsInsertion_127 : decode cX13_endsInsertion 127 = .ok (.istore_n 3, 1) := by decide +kernel
theorem dX13_endsInsertion_128 : decode cX13_endsInsertion 128 = .ok (.iconst 2, 1) := by decide +kernel
theorem dX13_endsInsertion_129 : decode cX13_endsInsertion 129 = .ok (.istore 4, 2) := by decide +kernel
theorem dX13_endsInsertion_131 : decode cX13_endsInsertion 131 = .ok (.iload 4, 2) := by decide +kernel
theorem dX13_endsInsertion_133 : decode cX13_endsInsertion 133 = .ok (.aload_n 0, 1) := by decide +kernel
theorem dX13_endsInsertion_134 : decode cX13_endsInsertion 134 = .ok (.getfield 475, 3) := by decide +kernel
theorem dX13_endsInsertion_137 : decode cX13_endsInsertion 137 = .ok (.if_icmp .ge 63, 3) := by decide +kernel
theorem dX13_endsInsertion_140 : decode cX13_endsInsertion 140 = .ok (.iload_n 3, 1) := by decide +kernel
theorem dX13_endsInsertion_141 : decode cX13_endsInsertion 141 = .ok (.ifCond .eq 59, 3) := by decide +kernel
theorem dX13_endsInsertion_144 : decode cX13_endsInsertion 144 = .ok (.iload_n 1, 1) := by decide +kernel
theorem dX13_endsInsertion_145 : decode cX13_endsInsertion 145 = .ok (.iload_n 2, 1) := by decide +kernel
theorem dX13_endsInsertion_146 : decode cX13_endsInsertion 146 = .ok (.iadd, 1) := by decide +kernel
theorem dX13_endsInsertion_147 : decode cX13_endsInsertion 147 = .ok (.sipush 2600, 3) := by decide +kernel
theorem dX13_endsInsertion_150 : decode cX13_endsInsertion 150 = .ok (.if_icmp .gt 7, 3) := by decide +kernel
theorem dX13_endsInsertion_153 : decode cX13_endsInsertion 153 = .ok (.iconst 1, 1) := by decide +kernel
theorem dX13_endsInsertion_154 : decode cX13_endsInsertion 154 = .ok (.goto 4, 3) := by decide +kernel
theorem dX13_endsInsertion_157 : decode cX13_endsInsertion 157 = .ok (.iconst 0, 1) := by decide +kernel
theorem dX13_endsInsertion_158 : decode cX13_endsInsertion 158 = .ok (.istore_n 3, 1) := by decide +kernel
theorem dX13_endsInsertion_159 : decode cX13_endsInsertion 159 = .ok (.iconst 0, 1) := by decide +kernel
theorem dX13_endsInsertion_160 : decode cX13_endsInsertion 160 = .ok (.istore 5, 2) := by decide +kernel
theorem dX13_endsInsertion_162 : decode cX13_endsInsertion 162 = .ok (.iload 5, 2) := by decide +kernel
theorem dX13_endsInsertion_164 : decode cX13_endsInsertion 164 = .ok (.iload_n 2, 1) := by decide +kernel
theorem dX13_endsInsertion_165 : decode cX13_endsInsertion 165 = .ok (.if_icmp .ge 29, 3) := by decide +kernel
theorem dX13_endsInsertion_168 : decode cX13_endsInsertion 168 = .ok (.iload_n 3, 1) := by decide +kernel
theorem dX13_endsInsertion_169 : decode cX13_endsInsertion 169 = .ok (.ifCond .eq 25, 3) := by decide +kernel
theorem dX13_endsInsertion_172 : decode cX13_endsInsertion 172 = .ok (.aload_n 0, 1) := by decide +kernel
theorem dX13_endsInsertion_173 : decode cX13_endsInsertion 173 = .ok (.getfield 83, 3) := by decide +kernel
theorem dX13_endsInsertion_176 : decode cX13_endsInsertion 176 = .ok (.iload_n 1, 1) := by decide +kernel
theorem dX13_endsInsertion_177 : decode cX13_endsInsertion 177 = .ok (.aload_n 0, 1) := by decide +kernel
theorem dX13_endsInsertion_178 : decode cX13_endsInsertion 178 = .ok (.getfield 83, 3) := by decide +kernel
theorem dX13_endsInsertion_181 : decode cX13_endsInsertion 181 = .ok (.iload 5, 2) := by decide +kernel
theorem dX13_endsInsertion_183 : decode cX13_endsInsertion 183 = .ok (.iaload, 1) := by decide +kernel
theorem dX13_endsInsertion_184 : decode cX13_endsInsertion 184 = .ok (.iastore, 1) := by decide +kernel
theorem dX13_endsInsertion_185 : decode cX13_endsInsertion 185 = .ok (.iinc 1 1, 3) := by decide +kernel
theorem dX13_endsInsertion_188 : decode cX13_endsInsertion 188 = .ok (.iinc 5 1, 3) := by decide +kernel
theorem dX13_endsInsertion_191 : decode cX13_endsInsertion 191 = .ok (.goto (-29), 3) := by decide +kernel
theorem dX13_endsInsertion_194 : decode cX13_endsInsertion 194 = .ok (.iinc 4 1, 3) := by decide +kernel
theorem dX13_endsInsertion_197 : decode cX13_endsInsertion 197 = .ok (.goto (-66), 3) := by decide +kernel
theorem dX13_endsInsertion_200 : decode cX13_endsInsertion 200 = .ok (.iload_n 3, 1) := by decide +kernel
theorem dX13_endsInsertion_201 : decode cX13_endsInsertion 201 = .ok (.ifCond .eq 44, 3) := by decide +kernel
theorem dX13_endsInsertion_204 : decode cX13_endsInsertion 204 = .ok (.aload_n 0, 1) := by decide +kernel
theorem dX13_endsInsertion_205 : decode cX13_endsInsertion 205 = .ok (.aload_n 0, 1) := by decide +kernel
theorem dX13_endsInsertion_206 : decode cX13_endsInsertion 206 = .ok (.getfield 213, 3) := by decide +kernel
theorem dX13_endsInsertion_209 : decode cX13_endsInsertion 209 = .ok (.aload_n 0, 1) := by decide +kernel
theorem dX13_endsInsertion_210 : decode cX13_endsInsertion 210 = .ok (.getfield 216, 3) := by decide +kernel
theorem dX13_endsInsertion_213 : decode cX13_endsInsertion 213 = .ok (.iload_n 1, 1) := by decide +kernel
theorem dX13_endsInsertion_214 : decode cX13_endsInsertion 214 = .ok (.invokevirtual 557, 3) := by decide +kernel
theorem dX13_endsInsertion_217 : decode cX13_endsInsertion 217 = .ok (.ifCond .eq 28, 3) := by decide +kernel
theorem dX13_endsInsertion_220 : decode cX13_endsInsertion 220 = .ok (.aload_n 0, 1) := by decide +kernel
theorem dX13_endsInsertion_221 : decode cX13_endsInsertion 221 = .ok (.aload_n 0, 1) := by decide +kernel
theorem dX13_endsInsertion_222 : decode cX13_endsInsertion 222 = .ok (.getfield 213, 3) := by decide +kernel
theorem dX13_endsInsertion_225 : decode cX13_endsInsertion 225 = .ok (.aload_n 0, 1) := by decide +kernel
theorem dX13_endsInsertion_226 : decode cX13_endsInsertion 226 = .ok (.getfield 216, 3) := by decide +kernel
theorem dX13_endsInsertion_229 : decode cX13_endsInsertion 229 = .ok (.iload_n 1, 1) := by decide +kernel
theorem dX13_endsInsertion_230 : decode cX13_endsInsertion 230 = .ok (.invokevirtual 513, 3) := by decide +kernel
theorem dX13_endsInsertion_233 : decode cX13_endsInsertion 233 = .ok (.aload_n 0, 1) := by decide +kernel
theorem dX13_endsInsertion_234 : decode cX13_endsInsertion 234 = .ok (.aload_n 0, 1) := by decide +kernel
theorem dX13_endsInsertion_235 : decode cX13_endsInsertion 235 = .ok (.getfield 281, 3) := by decide +kernel
theorem dX13_endsInsertion_238 : decode cX13_endsInsertion 238 = .ok (.aload_n 0, 1) := by decide +kernel
theorem dX13_endsInsertion_239 : decode cX13_endsInsertion 239 = .ok (.getfield 284, 3) := by decide +kernel
theorem dX13_endsInsertion_242 : decode cX13_endsInsertion 242 = .ok (.invokevirtual 226, 3) := by decide +kernel
theorem dX13_endsInsertion_245 : decode cX13_endsInsertion 245 = .ok (.aload_n 0, 1) := by decide +kernel
theorem dX13_endsInsertion_246 : decode cX13_endsInsertion 246 = .ok (.iconst 0, 1) := by decide +kernel
theorem dX13_endsInsertion_247 : decode cX13_endsInsertion 247 = .ok (.putfield 466, 3) := by decide +kernel
theorem dX13_endsInsertion_250 : decode cX13_endsInsertion 250 = .ok (.aload_n 0, 1) := by decide +kernel
theorem dX13_endsInsertion_251 : decode cX13_endsInsertion 251 = .ok (.aload_n 0, 1) := by decide +kernel
theorem dX13_endsInsertion_252 : decode cX13_endsInsertion 252 = .ok (.getfield 213, 3) := by decide +kernel
theorem dX13_endsInsertion_255 : decode cX13_endsInsertion 255 = .ok (.iconst 0, 1) := by decide +kernel
theorem dX13_endsInsertion_256 : decode cX13_endsInsertion 256 = .ok (.aload_n 0, 1) := by decide +kernel
theorem dX13_endsInsertion_257 : decode cX13_endsInsertion 257 = .ok (.getfield 216, 3) := by decide +kernel
theorem dX13_endsInsertion_260 : decode cX13_endsInsertion 260 = .ok (.iconst 1, 1) := by decide +kernel
theorem dX13_endsInsertion_261 : decode cX13_endsInsertion 261 = .ok (.isub, 1) := by decide +kernel
theorem dX13_endsInsertion_262 : decode cX13_endsInsertion 262 = .ok (.invokestatic 210, 3) := by decide +kernel
theorem dX13_endsInsertion_265 : decode cX13_endsInsertion 265 = .ok (.invokevirtual 226, 3) := by decide +kernel
theorem dX13_endsInsertion_268 : decode cX13_endsInsertion 268 = .ok (.aload_n 0, 1) := by decide +kernel
theorem dX13_endsInsertion_269 : decode cX13_endsInsertion 269 = .ok (.invokevirtual 723, 3) := by decide +kernel
theorem dX13_endsInsertion_272 : decode cX13_endsInsertion 272 = .ok (.aload_n 0, 1) := by decide +kernel
theorem dX13_endsInsertion_273 : decode cX13_endsInsertion 273 = .ok (.invokevirtual 247, 3) := by decide +kernel
theorem dX13_endsInsertion_276 : decode cX13_endsInsertion 276 = .ok (.ifCond .ne 7, 3) := by decide +kernel
theorem dX13_endsInsertion_279 : decode cX13_endsInsertion 279 = .ok (.aload_n 0, 1) := by decide +kernel
theorem dX13_endsInsertion_280 : decode cX13_endsInsertion 280 = .ok (.invokevirtual 728, 3) := by decide +kernel
theorem dX13_endsInsertion_283 : decode cX13_endsInsertion 283 = .ok (.return_, 1) := by decide +kernel
theorem dX13_isBehind_0 : decode cX13_isBehind 0 = .ok (.aload_n 0, 1) := by decide +kernel
theorem dX13_isBehind_1 : decode cX13_isBehind 1 = .ok (.getfield 748, 3) := by decide +kernel
theorem dX13_isBehind_4 : decode cX13_isBehind 4 = .ok (.aload_n 0, 1) := by decide +kernel
theorem dX13_isBehind_5 : decode cX13_isBehind 5 = .ok (.getfield 213, 3) := by decide +kernel
theorem dX13_isBehind_8 : decode cX13_isBehind 8 = .ok (.if_icmp .gt 25, 3) := by decide +kernel
theorem dX13_isBehind_11 : decode cX13_isBehind 11 = .ok (.aload_n 0, 1) := by decide +kernel
theorem dX13_isBehind_12 : decode cX13_isBehind 12 = .ok (.getfield 748, 3) := by decide +kernel
theorem dX13_isBehind_15 : decode cX13_isBehind 15 = .ok (.aload_n 0, 1) := by decide +kernel
theorem dX13_isBehind_16 : decode cX13_isBehind 16 = .ok (.getfield 213, 3) := by decide +kernel
theorem dX13_isBehind_19 : decode cX13_isBehind 19 = .ok (.if_icmp .ne 18, 3) := by decide +kernel
theorem dX13_isBehind_22 : decode cX13_isBehind 22 = .ok (.aload_n 0, 1) := by decide +kernel
theorem dX13_isBehind_23 : decode cX13_isBehind 23 = .ok (.getfield 751, 3) := by decide +kernel
theorem dX13_isBehind_26 : decode cX13_isBehind 26 = .ok (.aload_n 0, 1) := by decide +kernel
theorem dX13_isBehind_27 : decode cX13_isBehind 27 = .ok (.getfield 216, 3) := by decide +kernel
theorem dX13_isBehind_30 : decode cX13_isBehind 30 = .ok (.if_icmp .le 7, 3) := by decide +kernel
theorem dX13_isBehind_33 : decode cX13_isBehind 33 = .ok (.iconst 1, 1) := by decide +kernel
theorem dX13_isBehind_34 : decode cX13_isBehind 34 = .ok (.goto 4, 3) := by decide +kernel
theorem dX13_isBehind_37 : decode cX13_isBehind 37 = .ok (.iconst 0, 1) := by decide +kernel
theorem dX13_isBehind_38 : decode cX13_isBehind 38 = .ok (.ireturn, 1) := by decide +kernel
theorem dX13_spansSelection_0 : decode cX13_spansSelection 0 = .ok (.aload_n 0, 1) := by decide +kernel
theorem dX13_spansSelection_1 : decode cX13_spansSelection 1 = .ok (.getfield 748, 3) := by decide +kernel
theorem dX13_spansSelection_4 : decode cX13_spansSelection 4 = .ok (.aload_n 0, 1) := by decide +kernel
theorem dX13_spansSelection_5 : decode cX13_spansSelection 5 = .ok (.getfield 213, 3) := by decide +kernel
theorem dX13_spansSelection_8 : decode cX13_spansSelection 8 = .ok (.invokestatic 257, 3) := by decide +kernel
theorem dX13_spansSelection_11 : decode cX13_spansSelection 11 = .ok (.istore_n 1, 1) := by decide +kernel
theorem dX13_spansSelection_12 : decode cX13_spansSelection 12 = .ok (.aload_n 0, 1) := by decide +kernel
theorem dX13_spansSelection_13 : decode cX13_spansSelection 13 = .ok (.getfield 748, 3) := by decide +kernel
theorem dX13_spansSelection_16 : decode cX13_spansSelection 16 = .ok (.aload_n 0, 1) := by decide +kernel
theorem dX13_spansSelection_17 : decode cX13_spansSelection 17 = .ok (.getfield 213, 3) := by decide +kernel
theorem dX13_spansSelection_20 : decode cX13_spansSelection 20 = .ok (.invokestatic 210, 3) := by decide +kernel
theorem dX13_spansSelection_23 : decode cX13_spansSelection 23 = .ok (.istore_n 2, 1) := by decide +kernel
theorem dX13_spansSelection_24 : decode cX13_spansSelection 24 = .ok (.aload_n 0, 1) := by decide +kernel
theorem dX13_spansSelection_25 : decode cX13_spansSelection 25 = .ok (.getfield 751, 3) := by decide +kernel
theorem dX13_spansSelection_28 : decode cX13_spansSelection 28 = .ok (.aload_n 0, 1) := by decide +kernel
theorem dX13_spansSelection_29 : decode cX13_spansSelection 29 = .ok (.getfield 17, 3) := by decide +kernel
theorem dX13_spansSelection_32 : decode cX13_spansSelection 32 = .ok (.aload_n 0, 1) := by decide +kernel
theorem dX13_spansSelection_33 : decode cX13_spansSelection 33 = .ok (.getfield 748, 3) := by decide +kernel
theorem dX13_spansSelection_36 : decode cX13_spansSelection 36 = .ok (.iaload, 1) := by decide +kernel
theorem dX13_spansSelection_37 : decode cX13_spansSelection 37 = .ok (.invokestatic 257, 3) := by decide +kernel
theorem dX13_spansSelection_40 : decode cX13_spansSelection 40 = .ok (.istore_n 3, 1) := by decide +kernel
theorem dX13_spansSelection_41 : decode cX13_spansSelection 41 = .ok (.aload_n 0, 1) := by decide +kernel
theorem dX13_spansSelection_42 : decode cX13_spansSelection 42 = .ok (.getfield 466, 3) := by decide +kernel
theorem dX13_spansSelection_45 : decode cX13_spansSelection 45 = .ok (.iconst 3, 1) := by decide +kernel
theorem dX13_spansSelection_46 : decode cX13_spansSelection 46 = .ok (.if_icmp .ne 20, 3) := by decide +kernel
theorem dX13_spansSelection_49 : decode cX13_spansSelection 49 = .ok (.aload_n 0, 1) := by decide +kernel
theorem dX13_spansSelection_50 : decode cX13_spansSelection 50 = .ok (.aload_n 0, 1) := by decide +kernel
theorem dX13_spansSelection_51 : decode cX13_spansSelection 51 = .ok (.iload_n 1, 1) := by decide +kernel
theorem dX13_spansSelection_52 : decode cX13_spansSelection 52 = .ok (.invokevirtual 346, 3) := by decide +kernel
theorem dX13_spansSelection_55 : decode cX13_spansSelection 55 = .ok (.aload_n 0, 1) := by decide +kernel
theorem dX13_spansSelection_56 : decode cX13_spansSelection 56 = .ok (.iload_n 2, 1) := by decide +kernel
theorem dX13_spansSelection_57 : decode cX13_spansSelection 57 = .ok (.invokevirtual 343, 3) := by decide +kernel
theorem dX13_spansSelection_60 : decode cX13_spansSelection 60 = .ok (.invokevirtual 414, 3) := by decide +kernel
theorem dX13_spansSelection_63 : decode cX13_spansSelection 63 = .ok (.goto 91, 3) := by decide +kernel
theorem dX13_spansSelection_66 : decode cX13_spansSelection 66 = .ok (.aload_n 0, 1) := by decide +kernel
theorem dX13_spansSelection_67 : decode cX13_spansSelection 67 = .ok (.getfield 466, 3) := by decide +kernel
theorem dX13_spansSelection_70 : decode cX13_spansSelection 70 = .ok (.iconst 4, 1) := by decide +kernel
theorem dX13_spansSelection_71 : decode cX13_spansSelection 71 = .ok (.if_icmp .ne 31, 3) := by decide +kernel
theorem dX13_spansSelection_74 : decode cX13_spansSelection 74 = .ok (.aload_n 0, 1) := by decide +kernel
theorem dX13_spansSelection_75 : decode cX13_spansSelection 75 = .ok (.iconst 3, 1) := by decide +kernel
theorem dX13_spansSelection_76 : decode cX13_spansSelection 76 = .ok (.iload_n 1, 1) := by decide +kernel
theorem dX13_spansSelection_77 : decode cX13_spansSelection 77 = .ok (.iload_n 3, 1) := by decide +kernel
theorem dX13_spansSelection_78 : decode cX13_spansSelection 78 = .ok (.aload_n 0, 1) := by decide +kernel
theorem dX13_spansSelection_79 : decode cX13_spansSelection 79 = .ok (.getfield 216, 3) := by decide +kernel
theorem dX13_spansSelection_82 : decode cX13_spansSelection 82 = .ok (.invokestatic 257, 3) := by decide +kernel
theorem dX13_spansSelection_85 : decode cX13_spansSelection 85 = .ok (.iload_n 2, 1) := by decide +kernel
theorem dX13_spansSelection_86 : decode cX13_spansSelection 86 = .ok (.iload_n 3, 1) := by decide +kernel
theorem dX13_spansSelection_87 : decode cX13_spansSelection 87 = .ok (.aload_n 0, 1) := by decide +kernel
theorem dX13_spansSelection_88 : decode cX13_spansSelection 88 = .ok (.getfield 216, 3) := by decide +kernel
theorem dX13_spansSelection_91 : decode cX13_spansSelection 91 = .ok (.invokestatic 210, 3) := by decide +kernel
theorem dX13_spansSelection_94 : decode cX13_spansSelection 94 = .ok (.iconst 1, 1) := by decide +kernel
theorem dX13_spansSelection_95 : decode cX13_spansSelection 95 = .ok (.iadd, 1) := by decide +kernel
theorem dX13_spansSelection_96 : decode cX13_spansSelection 96 = .ok (.invokevirtual 410, 3) := by decide +kernel
theorem dX13_spansSelection_99 : decode cX13_spansSelection 99 = .ok (.goto 55, 3) := by decide +kernel
theorem dX13_spansSelection_102 : decode cX13_spansSelection 102 = .ok (.aload_n 0, 1) := by decide +kernel
theorem dX13_spansSelection_103 : decode cX13_spansSelection 103 = .ok (.invokevirtual 834, 3) := by decide +kernel
theorem dX13_spansSelection_106 : decode cX13_spansSelection 106 = .ok (.ifCond .eq 7, 3) := by decide +kernel
theorem dX13_spansSelection_109 : decode cX13_spansSelection 109 = .ok (.iload_n 3, 1) := by decide +kernel
theorem dX13_spansSelection_110 : decode cX13_spansSelection 110 = .ok (.goto 7, 3) := by decide +kernel
theorem dX13_spansSelection_113 : decode cX13_spansSelection 113 = .ok (.aload_n 0, 1) := by decide +kernel
theorem dX13_spansSelection_114 : decode cX13_spansSelection 114 = .ok (.getfield 216, 3) := by decide +kernel
theorem dX13_spansSelection_117 : decode cX13_spansSelection 117 = .ok (.istore 4, 2) := by decide +kernel
theorem dX13_spansSelection_119 : decode cX13_spansSelection 119 = .ok (.aload_n 0, 1) := by decide +kernel
theorem dX13_spansSelection_120 : decode cX13_spansSelection 120 = .ok (.iconst 1, 1) := by decide +kernel
theorem dX13_spansSelection_121 : decode cX13_spansSelection 121 = .ok (.iload_n 1, 1) := by decide +kernel
theorem dX13_spansSelection_122 : decode cX13_spansSelection 122 = .ok (.aload_n 0, 1) := by decide +kernel
theorem dX13_spansSelection_123 : decode cX13_spansSelection 123 = .ok (.invokevirtual 834, 3) := by decide +kernel
theorem dX13_spansSelection_126 : decode cX13_spansSelection 126 = .ok (.ifCond .eq 10, 3) := by decide +kernel
theorem dX13_spansSelection_129 : decode cX13_spansSelection 129 = .ok (.aload_n 0, 1) := by decide +kernel
theorem dX13_spansSelection_130 : decode cX13_spansSelection 130 = .ok (.getfield 216, 3) := by decide +kernel
theorem dX13_spansSelection_133 : decode cX13_spansSelection 133 = .ok (.goto 4, 3) := by decide +kernel
theorem dX13_spansSelection_136 : decode cX13_spansSelection 136 = .ok (.iload_n 3, 1) := by decide +kernel
theorem dX13_spansSelection_137 : decode cX13_spansSelection 137 = .ok (.iload_n 2, 1) := by decide +kernel
theorem dX13_spansSelection_138 : decode cX13_spansSelection 138 = .ok (.iload 4, 2) := by decide +kernel
theorem dX13_spansSelection_140 : decode cX13_spansSelection 140 = .ok (.iconst 1, 1) := by decide +kernel
theorem dX13_spansSelection_141 : decode cX13_spansSelection 141 = .ok (.iadd, 1) := by decide +kernel
theorem dX13_spansSelection_142 : decode cX13_spansSelection 142 = .ok (.aload_n 0, 1) := by decide +kernel
theorem dX13_spansSelection_143 : decode cX13_spansSelection 143 = .ok (.getfield 17, 3) := by decide +kernel
theorem dX13_spansSelection_146 : decode cX13_spansSelection 146 = .ok (.iload_n 2, 1) := by decide +kernel
theorem dX13_spansSelection_147 : decode cX13_spansSelection 147 = .ok (.iaload, 1) := by decide +kernel
theorem dX13_spansSelection_148 : decode cX13_spansSelection 148 = .ok (.invokestatic 257, 3) := by decide +kernel
theorem dX13_spansSelection_151 : decode cX13_spansSelection 151 = .ok (.invokevirtual 410, 3) := by decide +kernel
theorem dX13_spansSelection_154 : decode cX13_spansSelection 154 = .ok (.return_, 1) := by decide +kernel
theorem dX13_hasSigns_0 : decode cX13_hasSigns 0 = .ok (.iconst 0, 1) := by decide +kernel
theorem dX13_hasSigns_1 : decode cX13_hasSigns 1 = .ok (.istore_n 1, 1) := by decide +kernel
theorem dX13_hasSigns_2 : decode cX13_hasSigns 2 = .ok (.aload_n 0, 1) := by decide +kernel
theorem dX13_hasSigns_3 : decode cX13_hasSigns 3 = .ok (.getfield 398, 3) := by decide +kernel
theorem dX13_hasSigns_6 : decode cX13_hasSigns 6 = .ok (.istore_n 2, 1) := by decide +kernel
theorem dX13_hasSigns_7 : decode cX13_hasSigns 7 = .ok (.iload_n 2, 1) := by decide +kernel
theorem dX13_hasSigns_8 : decode cX13_hasSigns 8 = .ok (.aload_n 0, 1) := by decide +kernel
theorem dX13_hasSigns_9 : decode cX13_hasSigns 9 = .ok (.getfield 404, 3) := by decide +kernel
theorem dX13_hasSigns_12 : decode cX13_hasSigns 12 = .ok (.if_icmp .gt 32, 3) := by decide +kernel
theorem dX13_hasSigns_15 : decode cX13_hasSigns 15 = .ok (.iload_n 1, 1) := by decide +kernel
theorem dX13_hasSigns_16 : decode cX13_hasSigns 16 = .ok (.ifCond .ne 16, 3) := by decide +kernel
theorem dX13_hasSigns_19 : decode cX13_hasSigns 19 = .ok (.aload_n 0, 1) := by decide +kernel
theorem dX13_hasSigns_20 : decode cX13_hasSigns 20 = .ok (.iload_n 2, 1) := by decide +kernel
theorem dX13_hasSigns_21 : decode cX13_hasSigns 21 = .ok (.invokevirtual 520, 3) := by decide +kernel
theorem dX13_hasSigns_24 : decode cX13_hasSigns 24 = .ok (.aload_n 0, 1) := by decide +kernel
theorem dX13_hasSigns_25 : decode cX13_hasSigns 25 = .ok (.iload_n 2, 1) := by decide +kernel
theorem dX13_hasSigns_26 : decode cX13_hasSigns 26 = .ok (.invokevirtual 517, 3) := by decide +kernel
theorem dX13_hasSigns_29 : decode cX13_hasSigns 29 = .ok (.if_icmp .le 7, 3) := by decide +kernel
theorem dX13_hasSigns_32 : decode cX13_hasSigns 32 = .ok (.iconst 1, 1) := by decide +kernel
theorem dX13_hasSigns_33 : decode cX13_hasSigns 33 = .ok (.goto 4, 3) := by decide +kernel
theorem dX13_hasSigns_36 : decode cX13_hasSigns 36 = .ok (.iconst 0, 1) := by decide +kernel
theorem dX13_hasSigns_37 : decode cX13_hasSigns 37 = .ok (.istore_n 1, 1) := by decide +kernel
theorem dX13_hasSigns_38 : decode cX13_hasSigns 38 = .ok (.iinc 2 1, 3) := by decide +kernel
theorem dX13_hasSigns_41 : decode cX13_hasSigns 41 = .ok (.goto (-34), 3) := by decide +kernel
theorem dX13_hasSigns_44 : decode cX13_hasSigns 44 = .ok (.iload_n 1, 1) := by decide +kernel
theorem dX13_hasSigns_45 : decode cX13_hasSigns 45 = .ok (.ireturn, 1) := by decide +kernel
theorem dX13_replacesSpan_0 : decode cX13_replacesSpan 0 = .ok (.aload_n 0, 1) := by decide +kernel
theorem dX13_replacesSpan_1 : decode cX13_replacesSpan 1 = .ok (.invokevirtual 837, 3) := by decide +kernel
theorem dX13_replacesSpan_4 : decode cX13_replacesSpan 4 = .ok (.ifCond .ne 5, 3) := by decide +kernel
theorem dX13_replacesSpan_7 : decode cX13_replacesSpan 7 = .ok (.iconst 0, 1) := by decide +kernel
theorem dX13_replacesSpan_8 : decode cX13_replacesSpan 8 = .ok (.ireturn, 1) := by decide +kernel
theorem dX13_replacesSpan_9 : decode cX13_replacesSpan 9 = .ok (.aload_n 0, 1) := by decide +kernel
theorem dX13_replacesSpan_10 : decode cX13_replacesSpan 10 = .ok (.getfield 398, 3) := by decide +kernel
theorem dX13_replacesSpan_13 : decode cX13_replacesSpan 13 = .ok (.istore_n 2, 1) := by decide +kernel
theorem dX13_replacesSpan_14 : decode cX13_replacesSpan 14 = .ok (.iload_n 2, 1) := by decide +kernel
theorem dX13_replacesSpan_15 : decode cX13_replacesSpan 15 = .ok (.aload_n 0, 1) := by decide +kernel
theorem dX13_replacesSpan_16 : decode cX13_replacesSpan 16 = .ok (.getfield 404, 3) := by decide +kernel
theorem dX13_replacesSpan_19 : decode cX13_replacesSpan 19 = .ok (.if_icmp .gt 42, 3) := by decide +kernel
theorem dX13_replacesSpan_22 : decode cX13_replacesSpan 22 = .ok (.aload_n 0, 1) := by decide +kernel
theorem dX13_replacesSpan_23 : decode cX13_replacesSpan 23 = .ok (.iload_n 2, 1) := by decide +kernel
theorem dX13_replacesSpan_24 : decode cX13_replacesSpan 24 = .ok (.invokevirtual 517, 3) := by decide +kernel
theorem dX13_replacesSpan_27 : decode cX13_replacesSpan 27 = .ok (.istore_n 3, 1) := by decide +kernel
theorem dX13_replacesSpan_28 : decode cX13_replacesSpan 28 = .ok (.iload_n 3, 1) := by decide +kernel
theorem dX13_replacesSpan_29 : decode cX13_replacesSpan 29 = .ok (.aload_n 0, 1) := by decide +kernel
theorem dX13_replacesSpan_30 : decode cX13_replacesSpan 30 = .ok (.iload_n 2, 1) := by decide +kernel
theorem dX13_replacesSpan_31 : decode cX13_replacesSpan 31 = .ok (.invokevirtual 520, 3) := by decide +kernel
theorem dX13_replacesSpan_34 : decode cX13_replacesSpan 34 = .ok (.if_icmp .ge 21, 3) := by decide +kernel
theorem dX13_replacesSpan_37 : decode cX13_replacesSpan 37 = .ok (.aload_n 0, 1) := by decide +kernel
theorem dX13_replacesSpan_38 : decode cX13_replacesSpan 38 = .ok (.getfield 20, 3) := by decide +kernel
theorem dX13_replacesSpan_41 : decode cX13_replacesSpan 41 = .ok (.bipush 60, 2) := by decide +kernel
theorem dX13_replacesSpan_43 : decode cX13_replacesSpan 43 = .ok (.iload_n 2, 1) := by decide +kernel
theorem dX13_replacesSpan_44 : decode cX13_replacesSpan 44 = .ok (.imul, 1) := by decide +kernel
theorem dX13_replacesSpan_45 : decode cX13_replacesSpan 45 = .ok (.iload_n 3, 1) := by decide +kernel
theorem dX13_replacesSpan_46 : decode cX13_replacesSpan 46 = .ok (.iadd, 1) := by decide +kernel
theorem dX13_replacesSpan_47 : decode cX13_replacesSpan 47 = .ok (.iload_n 1, 1) := by decide +kernel
theorem dX13_replacesSpan_48 : decode cX13_replacesSpan 48 = .ok (.iastore, 1) := by decide +kernel
theorem dX13_replacesSpan_49 : decode cX13_replacesSpan 49 = .ok (.iinc 3 1, 3) := by decide +kernel
theorem dX13_replacesSpan_52 : decode cX13_replacesSpan 52 = .ok (.goto (-24), 3) := by decide +kernel
theorem dX13_replacesSpan_55 : decode cX13_replacesSpan 55 = .ok (.iinc 2 1, 3) := by decide +kernel
theorem dX13_replacesSpan_58 : decode cX13_replacesSpan 58 = .ok (.goto (-44), 3) := by decide +kernel
theorem dX13_replacesSpan_61 : decode cX13_replacesSpan 61 = .ok (.aload_n 0, 1) := by decide +kernel
theorem dX13_replacesSpan_62 : decode cX13_replacesSpan 62 = .ok (.aload_n 0, 1) := by decide +kernel
theorem dX13_replacesSpan_63 : decode cX13_replacesSpan 63 = .ok (.getfield 398, 3) := by decide +kernel
theorem dX13_replacesSpan_66 : decode cX13_replacesSpan 66 = .ok (.aload_n 0, 1) := by decide +kernel
theorem dX13_replacesSpan_67 : decode cX13_replacesSpan 67 = .ok (.getfield 395, 3) := by decide +kernel
theorem dX13_replacesSpan_70 : decode cX13_replacesSpan 70 = .ok (.iconst 2, 1) := by decide +kernel
theorem dX13_replacesSpan_71 : decode cX13_replacesSpan 71 = .ok (.if_icmp .ne 7, 3) := by decide +kernel
theorem dX13_replacesSpan_74 : decode cX13_replacesSpan 74 = .ok (.iconst 0, 1) := by decide +kernel
theorem dX13_replacesSpan_75 : decode cX13_replacesSpan 75 = .ok (.goto 7, 3) := by decide +kernel
theorem dX13_replacesSpan_78 : decode cX13_replacesSpan 78 = .ok (.aload_n 0, 1) := by decide +kernel
theorem dX13_replacesSpan_79 : decode cX13_replacesSpan 79 = .ok (.getfield 401, 3) := by decide +kernel
theorem dX13_replacesSpan_82 : decode cX13_replacesSpan 82 = .ok (.invokevirtual 510, 3) := by decide +kernel
theorem dX13_replacesSpan_85 : decode cX13_replacesSpan 85 = .ok (.iconst 1, 1) := by decide +kernel
theorem dX13_replacesSpan_86 : decode cX13_replacesSpan 86 = .ok (.ireturn, 1) := by decide +kernel
theorem dX13_exchanges_0 : decode cX13_exchanges 0 = .ok (.aload_n 0, 1) := by decide +kernel
theorem dX13_exchanges_1 : decode cX13_exchanges 1 = .ok (.getfield 213, 3) := by decide +kernel
theorem dX13_exchanges_4 : decode cX13_exchanges 4 = .ok (.istore_n 1, 1) := by decide +kernel
theorem dX13_exchanges_5 : decode cX13_exchanges 5 = .ok (.aload_n 0, 1) := by decide +kernel
theorem dX13_exchanges_6 : decode cX13_exchanges 6 = .ok (.getfield 216, 3) := by decide +kernel
theorem dX13_exchanges_9 : decode cX13_exchanges 9 = .ok (.istore_n 2, 1) := by decide +kernel
theorem dX13_exchanges_10 : decode cX13_exchanges 10 = .ok (.aload_n 0, 1) := by decide +kernel
theorem dX13_exchanges_11 : decode cX13_exchanges 11 = .ok (.aload_n 0, 1) := by decide +kernel
theorem dX13_exchanges_12 : decode cX13_exchanges 12 = .ok (.getfield 748, 3) := by decide +kernel
theorem dX13_exchanges_15 : decode cX13_exchanges 15 = .ok (.aload_n 0, 1) := by decide +kernel
theorem dX13_exchanges_16 : decode cX13_exchanges 16 = .ok (.getfield 751, 3) := by decide +kernel
theorem dX13_exchanges_19 : decode cX13_exchanges 19 = .ok (.aload_n 0, 1) := by decide +kernel
theorem dX13_exchanges_20 : decode cX13_exchanges 20 = .ok (.aload_n 0, 1) := by decide +kernel
theorem dX13_exchanges_21 : decode cX13_exchanges 21 = .ok (.getfield 748, 3) := by decide +kernel
theorem dX13_exchanges_24 : decode cX13_exchanges 24 = .ok (.invokevirtual 309, 3) := by decide +kernel
theorem dX13_exchanges_27 : decode cX13_exchanges 27 = .ok (.invokestatic 257, 3) := by decide +kernel
theorem dX13_exchanges_30 : decode cX13_exchanges 30 = .ok (.invokevirtual 226, 3) := by decide +kernel
theorem dX13_exchanges_33 : decode cX13_exchanges 33 = .ok (.aload_n 0, 1) := by decide +kernel
theorem dX13_exchanges_34 : decode cX13_exchanges 34 = .ok (.iload_n 1, 1) := by decide +kernel
theorem dX13_exchanges_35 : decode cX13_exchanges 35 = .ok (.putfield 748, 3) := by decide +kernel
theorem dX13_exchanges_38 : decode cX13_exchanges 38 = .ok (.aload_n 0, 1) := by decide +kernel
theorem dX13_exchanges_39 : decode cX13_exchanges 39 = .ok (.iload_n 2, 1) := by decide +kernel
theorem dX13_exchanges_40 : decode cX13_exchanges 40 = .ok (.putfield 751, 3) := by decide +kernel
theorem dX13_exchanges_43 : decode cX13_exchanges 43 = .ok (.iconst 1, 1) := by decide +kernel
theorem dX13_exchanges_44 : decode cX13_exchanges 44 = .ok (.ireturn, 1) := by decide +kernel
theorem dX13_selectsObject_0 : decode cX13_selectsObject 0 = .ok (.aload_n 0, 1) := by decide +kernel
theorem dX13_selectsObject_1 : decode cX13_selectsObject 1 = .ok (.aload_n 0, 1) := by decide +kernel
theorem dX13_selectsObject_2 : decode cX13_selectsObject 2 = .ok (.getfield 612, 3) := by decide +kernel
theorem dX13_selectsObject_5 : decode cX13_selectsObject 5 = .ok (.aload_n 0, 1) := by decide +kernel
theorem dX13_selectsObject_6 : decode cX13_selectsObject 6 = .ok (.getfield 621, 3) := by decide +kernel
theorem dX13_selectsObject_9 : decode cX13_selectsObject 9 = .ok (.iload_n 1, 1) := by decide +kernel
theorem dX13_selectsObject_10 : decode cX13_selectsObject 10 = .ok (.invokevirtual 551, 3) := by decide +kernel
theorem dX13_selectsObject_13 : decode cX13_selectsObject 13 = .ok (.ifCond .eq 10, 3) := by decide +kernel
theorem dX13_selectsObject_16 : decode cX13_selectsObject 16 = .ok (.aload_n 0, 1) := by decide +kernel
theorem dX13_selectsObject_17 : decode cX13_selectsObject 17 = .ok (.invokevirtual 417, 3) := by decide +kernel
theorem dX13_selectsObject_20 : decode cX13_selectsObject 20 = .ok (.ifCond .ne 5, 3) := by decide +kernel
theorem dX13_selectsObject_23 : decode cX13_selectsObject 23 = .ok (.iconst 0, 1) := by decide +kernel
theorem dX13_selectsObject_24 : decode cX13_selectsObject 24 = .ok (.ireturn, 1) := by decide +kernel
theorem dX13_selectsObject_25 : decode cX13_selectsObject 25 = .ok (.aload_n 0, 1) := by decide +kernel
theorem dX13_selectsObject_26 : decode cX13_selectsObject 26 = .ok (.getfield 395, 3) := by decide +kernel
theorem dX13_selectsObject_29 : decode cX13_selectsObject 29 = .ok (.iconst 2, 1) := by decide +kernel
theorem dX13_selectsObject_30 : decode cX13_selectsObject 30 = .ok (.if_icmp .ne 32, 3) := by decide +kernel
theorem dX13_selectsObject_33 : decode cX13_selectsObject 33 = .ok (.aload_n 0, 1) := by decide +kernel
theorem dX13_selectsObject_34 : decode cX13_selectsObject 34 = .ok (.iconst 3, 1) := by decide +kernel
theorem dX13_selectsObject_35 : decode cX13_selectsObject 35 = .ok (.putfield 466, 3) := by decide +kernel
theorem dX13_selectsObject_38 : decode cX13_selectsObject 38 = .ok (.aload_n 0, 1) := by decide +kernel
theorem dX13_selectsObject_39 : decode cX13_selectsObject 39 = .ok (.aload_n 0, 1) := by decide +kernel
theorem dX13_selectsObject_40 : decode cX13_selectsObject 40 = .ok (.getfield 398, 3) := by decide +kernel
theorem dX13_selectsObject_43 : decode cX13_selectsObject 43 = .ok (.putfield 748, 3) := by decide +kernel
theorem dX13_selectsObject_46 : decode cX13_selectsObject 46 = .ok (.aload_n 0, 1) := by decide +kernel
theorem dX13_selectsObject_47 : decode cX13_selectsObject 47 = .ok (.iconst 0, 1) := by decide +kernel
theorem dX13_selectsObject_48 : decode cX13_selectsObject 48 = .ok (.putfield 751, 3) := by decide +kernel
theorem dX13_selectsObject_51 : decode cX13_selectsObject 51 = .ok (.aload_n 0, 1) := by decide +kernel
theorem dX13_selectsObject_52 : decode cX13_selectsObject 52 = .ok (.aload_n 0, 1) := by decide +kernel
theorem dX13_selectsObject_53 : decode cX13_selectsObject 53 = .ok (.getfield 404, 3) := by decide +kernel
theorem dX13_selectsObject_56 : decode cX13_selectsObject 56 = .ok (.iconst 0, 1) := by decide +kernel
theorem dX13_selectsObject_57 : decode cX13_selectsObject 57 = .ok (.invokevirtual 226, 3) := by decide +kernel
theorem dX13_selectsObject_60 : decode cX13_selectsObject 60 = .ok (.iconst 1, 1) := by decide +kernel
theorem dX13_selectsObject_61 : decode cX13_selectsObject 61 = .ok (.ireturn, 1) := by decide +kernel
theorem dX13_selectsObject_62 : decode cX13_selectsObject 62 = .ok (.aload_n 0, 1) := by decide +kernel
theorem dX13_selectsObject_63 : decode cX13_selectsObject 63 = .ok (.iconst 2, 1) := by decide +kernel
theorem dX13_selectsObject_64 : decode cX13_selectsObject 64 = .ok (.putfield 466, 3) := by decide +kernel
theorem dX13_selectsObject_67 : decode cX13_selectsObject 67 = .ok (.aload_n 0, 1) := by decide +kernel
theorem dX13_selectsObject_68 : decode cX13_selectsObject 68 = .ok (.aload_n 0, 1) := by decide +kernel
theorem dX13_selectsObject_69 : decode cX13_selectsObject 69 = .ok (.getfield 398, 3) := by decide +kernel
theorem dX13_selectsObject_72 : decode cX13_selectsObject 72 = .ok (.putfield 748, 3) := by decide +kernel
theorem dX13_selectsObject_75 : decode cX13_selectsObject 75 = .ok (.aload_n 0, 1) := by decide +kernel
theorem dX13_selectsObject_76 : decode cX13_selectsObject 76 = .ok (.aload_n 0, 1) := by decide +kernel
theorem dX13_selectsObject_77 : decode cX13_selectsObject 77 = .ok (.getfield 401, 3) := by decide +kernel
theorem dX13_selectsObject_80 : decode cX13_selectsObject 80 = .ok (.putfield 751, 3) := by decide +kernel
theorem dX13_selectsObject_83 : decode cX13_selectsObject 83 = .ok (.aload_n 0, 1) := by decide +kernel
theorem dX13_selectsObject_84 : decode cX13_selectsObject 84 = .ok (.getfield 407, 3) := by decide +kernel
theorem dX13_selectsObject_87 : decode cX13_selectsObject 87 = .ok (.ifCond .ne 18, 3) := by decide +kernel
theorem dX13_selectsObject_90 : decode cX13_selectsObject 90 = .ok (.aload_n 0, 1) := by decide +kernel
theorem dX13_selectsObject_91 : decode cX13_selectsObject 91 = .ok (.getfield 404, 3) := by decide +kernel
theorem dX13_selectsObject_94 : decode cX13_selectsObject 94 = .ok (.aload_n 0, 1) := by decide +kernel
theorem dX13_selectsObject_95 : decode cX13_selectsObject 95 = .ok (.getfield 398, 3) := by decide +kernel
theorem dX13_selectsObject_98 : decode cX13_selectsObject 98 = .ok (.if_icmp .le 7, 3) := by decide +kernel
theorem dX13_selectsObject_101 : decode cX13_selectsObject 101 = .ok (.iconst 1, 1) := by decide +kernel
theorem dX13_selectsObject_102 : decode cX13_selectsObject 102 = .ok (.goto 4, 3) := by decide +kernel
theorem dX13_selectsObject_105 : decode cX13_selectsObject 105 = .ok (.iconst 0, 1) := by decide +kernel
theorem dX13_selectsObject_106 : decode cX13_selectsObject 106 = .ok (.istore_n 2, 1) := by decide +kernel
theorem dX13_selectsObject_107 : decode cX13_selectsObject 107 = .ok (.aload_n 0, 1) := by decide +kernel
theorem dX13_selectsObject_108 : decode cX13_selectsObject 108 = .ok (.iload_n 2, 1) := by decide +kernel
theorem dX13_selectsObject_109 : decode cX13_selectsObject 109 = .ok (.ifCond .eq 12, 3) := by decide +kernel
theorem dX13_selectsObject_112 : decode cX13_selectsObject 112 = .ok (.aload_n 0, 1) := by decide +kernel
theorem dX13_selectsObject_113 : decode cX13_selectsObject 113 = .ok (.getfield 404, 3) := by decide +kernel
theorem dX13_selectsObject_116 : decode cX13_selectsObject 116 = .ok (.iconst 1, 1) := by decide +kernel
theorem dX13_selectsObject_117 : decode cX13_selectsObject 117 = .ok (.isub, 1) := by decide +kernel
theorem dX13_selectsObject_118 : decode cX13_selectsObject 118 = .ok (.goto 7, 3) := by decide +kernel
theorem dX13_selectsObject_121 : decode cX13_selectsObject 121 = .ok (.aload_n 0, 1) := by decide +kernel
theorem dX13_selectsObject_122 : decode cX13_selectsObject 122 = .ok (.getfield 404, 3) := by decide +kernel
theorem dX13_selectsObject_125 : decode cX13_selectsObject 125 = .ok (.iload_n 2, 1) := by decide +kernel
theorem dX13_selectsObject_126 : decode cX13_selectsObject 126 = .ok (.ifCond .eq 17, 3) := by decide +kernel
theorem dX13_selectsObject_129 : decode cX13_selectsObject 129 = .ok (.aload_n 0, 1) := by decide +kernel
theorem dX13_selectsObject_130 : decode cX13_selectsObject 130 = .ok (.getfield 17, 3) := by decide +kernel
theorem dX13_selectsObject_133 : decode cX13_selectsObject 133 = .ok (.aload_n 0, 1) := by decide +kernel
theorem dX13_selectsObject_134 : decode cX13_selectsObject 134 = .ok (.getfield 404, 3) := by decide +kernel
theorem dX13_selectsObject_137 : decode cX13_selectsObject 137 = .ok (.iconst 1, 1) := by decide +kernel
theorem dX13_selectsObject_138 : decode cX13_selectsObject 138 = .ok (.isub, 1) := by decide +kernel
theorem dX13_selectsObject_139 : decode cX13_selectsObject 139 = .ok (.iaload, 1) := by decide +kernel
theorem dX13_selectsObject_140 : decode cX13_selectsObject 140 = .ok (.goto 9, 3) := by decide +kernel
theorem dX13_selectsObject_143 : decode cX13_selectsObject 143 = .ok (.aload_n 0, 1) := by decide +kernel
theorem dX13_selectsObject_144 : decode cX13_selectsObject 144 = .ok (.getfield 407, 3) := by decide +kernel
theorem dX13_selectsObject_147 : decode cX13_selectsObject 147 = .ok (.iconst 1, 1) := by decide +kernel
theorem dX13_selectsObject_148 : decode cX13_selectsObject 148 = .ok (.isub, 1) := by decide +kernel
theorem dX13_selectsObject_149 : decode cX13_selectsObject 149 = .ok (.invokevirtual 510, 3) := by decide +kernel
theorem dX13_selectsObject_152 : decode cX13_selectsObject 152 = .ok (.iconst 1, 1) := by decide +kernel
theorem dX13_selectsObject_153 : decode cX13_selectsObject 153 = .ok (.ireturn, 1) := by decide +kernel
theorem dX13_meant_0 : decode cX13_meant 0 = .ok (.iload_n 0, 1) := by decide +kernel
theorem dX13_meant_1 : decode cX13_meant 1 = .ok (.bipush 120, 2) := by decide +kernel
theorem dX13_meant_3 : decode cX13_meant 3 = .ok (.if_icmp .ne 8, 3) := by decide +kernel
theorem dX13_meant_6 : decode cX13_meant 6 = .ok (.bipush 100, 2) := by decide +kernel
theorem dX13_meant_8 : decode cX13_meant 8 = .ok (.goto 27, 3) := by decide +kernel
theorem dX13_meant_11 : decode cX13_meant 11 = .ok (.iload_n 0, 1) := by decide +kernel
theorem dX13_meant_12 : decode cX13_meant 12 = .ok (.bipush 115, 2) := by decide +kernel
theorem dX13_meant_14 : decode cX13_meant 14 = .ok (.if_icmp .ne 8, 3) := by decide +kernel
theorem dX13_meant_17 : decode cX13_meant 17 = .ok (.bipush 99, 2) := by decide +kernel
theorem dX13_meant_19 : decode cX13_meant 19 = .ok (.goto 16, 3) := by decide +kernel
theorem dX13_meant_22 : decode cX13_meant 22 = .ok (.iload_n 0, 1) := by decide +kernel
theorem dX13_meant_23 : decode cX13_meant 23 = .ok (.bipush 126, 2) := by decide +kernel
theorem dX13_meant_25 : decode cX13_meant 25 = .ok (.if_icmp .ne 9, 3) := by decide +kernel
theorem dX13_meant_28 : decode cX13_meant 28 = .ok (.sipush 382, 3) := by decide +kernel
theorem dX13_meant_31 : decode cX13_meant 31 = .ok (.goto 4, 3) := by decide +kernel
theorem dX13_meant_34 : decode cX13_meant 34 = .ok (.iload_n 0, 1) := by decide +kernel
theorem dX13_meant_35 : decode cX13_meant 35 = .ok (.ireturn, 1) := by decide +kernel
theorem dX13_doesHere_0 : decode cX13_doesHere 0 = .ok (.aload_n 0, 1) := by decide +kernel
theorem dX13_doesHere_1 : decode cX13_doesHere 1 = .ok (.getfield 615, 3) := by decide +kernel
theorem dX13_doesHere_4 : decode cX13_doesHere 4 = .ok (.bipush 47, 2) := by decide +kernel
theorem dX13_doesHere_6 : decode cX13_doesHere 6 = .ok (.if_icmp .ne 7, 3) := by decide +kernel
theorem dX13_doesHere_9 : decode cX13_doesHere 9 = .ok (.iconst 1, 1) := by decide +kernel
theorem dX13_doesHere_10 : decode cX13_doesHere 10 = .ok (.goto 4, 3) := by decide +kernel
theorem dX13_doesHere_13 : decode cX13_doesHere 13 = .ok (.iconst 0, 1) := by decide +kernel
theorem dX13_doesHere_14 : decode cX13_doesHere 14 = .ok (.istore_n 1, 1) := by decide +kernel
theorem dX13_doesHere_15 : decode cX13_doesHere 15 = .ok (.iload_n 1, 1) := by decide +kernel
theorem dX13_doesHere_16 : decode cX13_doesHere 16 = .ok (.ifCond .eq 7, 3) := by decide +kernel
theorem dX13_doesHere_19 : decode cX13_doesHere 19 = .ok (.aload_n 0, 1) := by decide +kernel
theorem dX13_doesHere_20 : decode cX13_doesHere 20 = .ok (.invokevirtual 800, 3) := by decide +kernel
theorem dX13_doesHere_23 : decode cX13_doesHere 23 = .ok (.aload_n 0, 1) := by decide +kernel
theorem dX13_doesHere_24 : decode cX13_doesHere 24 = .ok (.getfield 615, 3) := by decide +kernel
theorem dX13_doesHere_27 : decode cX13_doesHere 27 = .ok (.invokestatic 636, 3) := by decide +kernel
theorem dX13_doesHere_30 : decode cX13_doesHere 30 = .ok (.ifCond .eq 98, 3) := by decide +kernel
theorem dX13_doesHere_33 : decode cX13_doesHere 33 = .ok (.aload_n 0, 1) := by decide +kernel
theorem dX13_doesHere_34 : decode cX13_doesHere 34 = .ok (.iconst 1, 1) := by decide +kernel
theorem dX13_doesHere_35 : decode cX13_doesHere 35 = .ok (.aload_n 0, 1) := by decide +kernel
theorem dX13_doesHere_36 : decode cX13_doesHere 36 = .ok (.getfield 654, 3) := by decide +kernel
theorem dX13_doesHere_39 : decode cX13_doesHere 39 = .ok (.invokestatic 210, 3) := by decide +kernel
theorem dX13_doesHere_42 : decode cX13_doesHere 42 = .ok (.aload_n 0, 1) := by decide +kernel
theorem dX13_doesHere_43 : decode cX13_doesHere 43 = .ok (.getfield 654, 3) := by decide +kernel
theorem dX13_doesHere_46 : decode cX13_doesHere 46 = .ok (.ifCond .le 7, 3) := by decide +kernel
theorem dX13_doesHere_49 : decode cX13_doesHere 49 = .ok (.iconst 1, 1) := by decide +kernel
theorem dX13_doesHere_50 : decode cX13_doesHere 50 = .ok (.goto 4, 3) := by decide +kernel
theorem dX13_doesHere_53 : decode cX13_doesHere 53 = .ok (.iconst 0, 1) := by decide +kernel
theorem dX13_doesHere_54 : decode cX13_doesHere 54 = .ok (.invokevirtual 806, 3) := by decide +kernel
theorem dX13_doesHere_57 : decode cX13_doesHere 57 = .ok (.istore_n 2, 1) := by decide +kernel
theorem dX13_doesHere_58 : decode cX13_doesHere 58 = .ok (.iload_n 1, 1) := by decide +kernel
theorem dX13_doesHere_59 : decode cX13_doesHere 59 = .ok (.ifCond .eq 11, 3) := by decide +kernel
theorem dX13_doesHere_62 : decode cX13_doesHere 62 = .ok (.iload_n 2, 1) := by decide +kernel
theorem dX13_doesHere_63 : decode cX13_doesHere 63 = .ok (.ifCond .ne 7, 3) := by decide +kernel
theorem dX13_doesHere_66 : decode cX13_doesHere 66 = .ok (.aload_n 0, 1) := by decide +kernel
theorem dX13_doesHere_67 : decode cX13_doesHere 67 = .ok (.invokevirtual 812, 3) := by decide +kernel
theorem dX13_doesHere_70 : decode cX13_doesHere 70 = .ok (.iload_n 2, 1) := by decide +kernel
theorem dX13_doesHere_71 : decode cX13_doesHere 71 = .ok (.ifCond .eq 55, 3) := by decide +kernel
theorem dX13_doesHere_74 : decode cX13_doesHere 74 = .ok (.aload_n 0, 1) := by decide +kernel
theorem dX13_doesHere_75 : decode cX13_doesHere 75 = .ok (.getfield 615, 3) := by decide +kernel
theorem dX13_doesHere_78 : decode cX13_doesHere 78 = .ok (.bipush 102, 2) := by decide +kernel
theorem dX13_doesHere_80 : decode cX13_doesHere 80 = .ok (.if_icmp .eq 30, 3) := by decide +kernel
theorem dX13_doesHere_83 : decode cX13_doesHere 83 = .ok (.aload_n 0, 1) := by decide +kernel
theorem dX13_doesHere_84 : decode cX13_doesHere 84 = .ok (.getfield 615, 3) := by decide +kernel
theorem dX13_doesHere_87 : decode cX13_doesHere 87 = .ok (.bipush 116, 2) := by decide +kernel
theorem dX13_doesHere_89 : decode cX13_doesHere 89 = .ok (.if_icmp .eq 21, 3) := by decide +kernel
theorem dX13_doesHere_92 : decode cX13_doesHere 92 = .ok (.aload_n 0, 1) := by decide +kernel
theorem dX13_doesHere_93 : decode cX13_doesHere 93 = .ok (.getfield 615, 3) := by decide +kernel
theorem dX13_doesHere_96 : decode cX13_doesHere 96 = .ok (.bipush 70, 2) := by decide +kernel
theorem dX13_doesHere_98 : decode cX13_doesHere 98 = .ok (.if_icmp .eq 12, 3) := by decide +kernel
theorem dX13_doesHere_101 : decode cX13_doesHere 101 = .ok (.aload_n 0, 1) := by decide +kernel
theorem dX13_doesHere_102 : decode cX13_doesHere 102 = .ok (.getfield 615, 3) := by decide +kernel
theorem dX13_doesHere_105 : decode cX13_doesHere 105 = .ok (.bipush 84, 2) := by decide +kernel
theorem dX13_doesHere_107 : decode cX13_doesHere 107 = .ok (.if_icmp .ne 19, 3) := by decide +kernel
theorem dX13_doesHere_110 : decode cX13_doesHere 110 = .ok (.aload_n 0, 1) := by decide +kernel
theorem dX13_doesHere_111 : decode cX13_doesHere 111 = .ok (.aload_n 0, 1) := by decide +kernel
theorem dX13_doesHere_112 : decode cX13_doesHere 112 = .ok (.getfield 615, 3) := by decide +kernel
theorem dX13_doesHere_115 : decode cX13_doesHere 115 = .ok (.putfield 371, 3) := by decide +kernel
theorem dX13_doesHere_118 : decode cX13_doesHere 118 = .ok (.aload_n 0, 1) := by decide +kernel
theorem dX13_doesHere_119 : decode cX13_doesHere 119 = .ok (.aload_n 0, 1) := by decide +kernel
theorem dX13_doesHere_120 : decode cX13_doesHere 120 = .ok (.getfield 612, 3) := by decide +kernel
theorem dX13_doesHere_123 : decode cX13_doesHere 123 = .ok (.putfield 374, 3) := by decide +kernel
theorem dX13_doesHere_126 : decode cX13_doesHere 126 = .ok (.iload_n 2, 1) := by decide +kernel
theorem dX13_doesHere_127 : decode cX13_doesHere 127 = .ok (.ireturn, 1) := by decide +kernel
theorem dX13_doesHere_128 : decode cX13_doesHere 128 = .ok (.aload_n 0, 1) := by decide +kernel
theorem dX13_doesHere_129 : decode cX13_doesHere 129 = .ok (.getfield 615, 3) := by decide +kernel
theorem dX13_doesHere_132 : decode cX13_doesHere 132 = .ok (.sipush 1024, 3) := by decide +kernel
theorem dX13_doesHere_135 : decode cX13_doesHere 135 = .ok (.if_icmp .ne 16, 3) := by decide +kernel
theorem dX13_doesHere_138 : decode cX13_doesHere 138 = .ok (.aload_n 0, 1) := by decide +kernel
theorem dX13_doesHere_139 : decode cX13_doesHere 139 = .ok (.iconst 1, 1) := by decide +kernel
theorem dX13_doesHere_140 : decode cX13_doesHere 140 = .ok (.aload_n 0, 1) := by decide +kernel
theorem dX13_doesHere_141 : decode cX13_doesHere 141 = .ok (.getfield 654, 3) := by decide +kernel
theorem dX13_doesHere_144 : decode cX13_doesHere 144 = .ok (.invokestatic 210, 3) := by decide +kernel
theorem dX13_doesHere_147 : decode cX13_doesHere 147 = .ok (.invokevirtual 840, 3) := by decide +kernel
theorem dX13_doesHere_150 : decode cX13_doesHere 150 = .ok (.ireturn, 1) := by decide +kernel
theorem dX13_doesHere_151 : decode cX13_doesHere 151 = .ok (.aload_n 0, 1) := by decide +kernel
theorem dX13_doesHere_152 : decode cX13_doesHere 152 = .ok (.getfield 615, 3) := by decide +kernel
theorem dX13_doesHere_155 : decode cX13_doesHere 155 = .ok (.bipush 111, 2) := by decide +kernel
theorem dX13_doesHere_157 : decode cX13_doesHere 157 = .ok (.if_icmp .ne 8, 3) := by decide +kernel
theorem dX13_doesHere_160 : decode cX13_doesHere 160 = .ok (.aload_n 0, 1) := by decide +kernel
theorem dX13_doesHere_161 : decode cX13_doesHere 161 = .ok (.invokevirtual 843, 3) := by decide +kernel
theorem dX13_doesHere_164 : decode cX13_doesHere 164 = .ok (.ireturn, 1) := by decide +kernel
theorem dX13_doesHere_165 : decode cX13_doesHere 165 = .ok (.aload_n 0, 1) := by decide +kernel
theorem dX13_doesHere_166 : decode cX13_doesHere 166 = .ok (.getfield 615, 3) := by decide +kernel
theorem dX13_doesHere_169 : decode cX13_doesHere 169 = .ok (.bipush 118, 2) := by decide +kernel
theorem dX13_doesHere_171 : decode cX13_doesHere 171 = .ok (.if_icmp .eq 21, 3) := by decide +kernel
theorem dX13_doesHere_174 : decode cX13_doesHere 174 = .ok (.aload_n 0, 1) := by decide +kernel
theorem dX13_doesHere_175 : decode cX13_doesHere 175 = .ok (.getfield 615, 3) := by decide +kernel
theorem dX13_doesHere_178 : decode cX13_doesHere 178 = .ok (.bipush 86, 2) := by decide +kernel
theorem dX13_doesHere_180 : decode cX13_doesHere 180 = .ok (.if_icmp .eq 12, 3) := by decide +kernel
theorem dX13_doesHere_183 : decode cX13_doesHere 183 = .ok (.aload_n 0, 1) := by decide +kernel
theorem dX13_doesHere_184 : decode cX13_doesHere 184 = .ok (.getfield 615, 3) := by decide +kernel
theorem dX13_doesHere_187 : decode cX13_doesHere 187 = .ok (.bipush 22, 2) := by decide +kernel
theorem dX13_doesHere_189 : decode cX13_doesHere 189 = .ok (.if_icmp .ne 50, 3) := by decide +kernel
theorem dX13_doesHere_192 : decode cX13_doesHere 192 = .ok (.aload_n 0, 1) := by decide +kernel
theorem dX13_doesHere_193 : decode cX13_doesHere 193 = .ok (.getfield 615, 3) := by decide +kernel
theorem dX13_doesHere_196 : decode cX13_doesHere 196 = .ok (.bipush 118, 2) := by decide +kernel
theorem dX13_doesHere_198 : decode cX13_doesHere 198 = .ok (.if_icmp .ne 7, 3) := by decide +kernel
theorem dX13_doesHere_201 : decode cX13_doesHere 201 = .ok (.iconst 2, 1) := by decide +kernel
theorem dX13_doesHere_202 : decode cX13_doesHere 202 = .ok (.goto 17, 3) := by decide +kernel
theorem dX13_doesHere_205 : decode cX13_doesHere 205 = .ok (.aload_n 0, 1) := by decide +kernel
theorem dX13_doesHere_206 : decode cX13_doesHere 206 = .ok (.getfield 615, 3) := by decide +kernel
theorem dX13_doesHere_209 : decode cX13_doesHere 209 = .ok (.bipush 86, 2) := by decide +kernel
theorem dX13_doesHere_211 : decode cX13_doesHere 211 = .ok (.if_icmp .ne 7, 3) := by decide +kernel
theorem dX13_doesHere_214 : decode cX13_doesHere 214 = .ok (.iconst 3, 1) := by decide +kernel
theorem dX13_doesHere_215 : decode cX13_doesHere 215 = .ok (.goto 4, 3) := by decide +kernel
theorem dX13_doesHere_218 : decode cX13_doesHere 218 = .ok (.iconst 4, 1) := by decide +kernel
theorem dX13_doesHere_219 : decode cX13_doesHere 219 = .ok (.istore_n 2, 1) := by decide +kernel
theorem dX13_doesHere_220 : decode cX13_doesHere 220 = .ok (.aload_n 0, 1) := by decide +kernel
theorem dX13_doesHere_221 : decode cX13_doesHere 221 = .ok (.aload_n 0, 1) := by decide +kernel
theorem dX13_doesHere_222 : decode cX13_doesHere 222 = .ok (.getfield 466, 3) := by decide +kernel
theorem dX13_doesHere_225 : decode cX13_doesHere 225 = .ok (.iload_n 2, 1) := by decide +kernel
theorem dX13_doesHere_226 : decode cX13_doesHere 226 = .ok (.if_icmp .ne 7, 3) := by decide +kernel
theorem dX13_doesHere_229 : decode cX13_doesHere 229 = .ok (.iconst 0, 1) := by decide +kernel
theorem dX13_doesHere_230 : decode cX13_doesHere 230 = .ok (.goto 4, 3) := by decide +kernel
theorem dX13_doesHere_233 : decode cX13_doesHere 233 = .ok (.iload_n 2, 1) := by decide +kernel
theorem dX13_doesHere_234 : decode cX13_doesHere 234 = .ok (.putfield 466, 3) := by decide +kernel
theorem dX13_doesHere_237 : decode cX13_doesHere 237 = .ok (.iconst 1, 1) := by decide +kernel
theorem dX13_doesHere_238 : decode cX13_doesHere 238 = .ok (.ireturn, 1) := by decide +kernel
theorem dX13_doesHere_239 : decode cX13_doesHere 239 = .ok (.aload_n 0, 1) := by decide +kernel
theorem dX13_doesHere_240 : decode cX13_doesHere 240 = .ok (.invokevirtual 846, 3) := by decide +kernel
theorem dX13_doesHere_243 : decode cX13_doesHere 243 = .ok (.ireturn, 1) := by decide +kernel
theorem dX13_endsSelection_0 : decode cX13_endsSelection 0 = .ok (.aload_n 0, 1) := by decide +kernel
theorem dX13_endsSelection_1 : decode cX13_endsSelection 1 = .ok (.getfield 466, 3) := by decide +kernel
theorem dX13_endsSelection_4 : decode cX13_endsSelection 4 = .ok (.istore_n 1, 1) := by decide +kernel
theorem dX13_endsSelection_5 : decode cX13_endsSelection 5 = .ok (.aload_n 0, 1) := by decide +kernel
theorem dX13_endsSelection_6 : decode cX13_endsSelection 6 = .ok (.getfield 615, 3) := by decide +kernel
theorem dX13_endsSelection_9 : decode cX13_endsSelection 9 = .ok (.invokestatic 849, 3) := by decide +kernel
theorem dX13_endsSelection_12 : decode cX13_endsSelection 12 = .ok (.istore_n 2, 1) := by decide +kernel
theorem dX13_endsSelection_13 : decode cX13_endsSelection 13 = .ok (.aload_n 0, 1) := by decide +kernel
theorem dX13_endsSelection_14 : decode cX13_endsSelection 14 = .ok (.invokevirtual 852, 3) := by decide +kernel
theorem dX13_endsSelection_17 : decode cX13_endsSelection 17 = .ok (.aload_n 0, 1) := by decide +kernel
theorem dX13_endsSelection_18 : decode cX13_endsSelection 18 = .ok (.iconst 0, 1) := by decide +kernel
theorem dX13_endsSelection_19 : decode cX13_endsSelection 19 = .ok (.putfield 466, 3) := by decide +kernel
theorem dX13_endsSelection_22 : decode cX13_endsSelection 22 = .ok (.aload_n 0, 1) := by decide +kernel
theorem dX13_endsSelection_23 : decode cX13_endsSelection 23 = .ok (.getfield 615, 3) := by decide +kernel
theorem dX13_endsSelection_26 : decode cX13_endsSelection 26 = .ok (.bipush 74, 2) := by decide +kernel
theorem dX13_endsSelection_28 : decode cX13_endsSelection 28 = .ok (.if_icmp .ne 30, 3) := by decide +kernel
theorem dX13_endsSelection_31 : decode cX13_endsSelection 31 = .ok (.aload_n 0, 1) := by decide +kernel
theorem dX13_endsSelection_32 : decode cX13_endsSelection 32 = .ok (.aload_n 0, 1) := by decide +kernel
theorem dX13_endsSelection_33 : decode cX13_endsSelection 33 = .ok (.getfield 398, 3) := by decide +kernel
theorem dX13_endsSelection_36 : decode cX13_endsSelection 36 = .ok (.iconst 2, 1) := by decide +kernel
theorem dX13_endsSelection_37 : decode cX13_endsSelection 37 = .ok (.aload_n 0, 1) := by decide +kernel
theorem dX13_endsSelection_38 : decode cX13_endsSelection 38 = .ok (.getfield 404, 3) := by decide +kernel
theorem dX13_endsSelection_41 : decode cX13_endsSelection 41 = .ok (.aload_n 0, 1) := by decide +kernel
theorem dX13_endsSelection_42 : decode cX13_endsSelection 42 = .ok (.getfield 398, 3) := by decide +kernel
theorem dX13_endsSelection_45 : decode cX13_endsSelection 45 = .ok (.isub, 1) := by decide +kernel
theorem dX13_endsSelection_46 : decode cX13_endsSelection 46 = .ok (.iconst 1, 1) := by decide +kernel
theorem dX13_endsSelection_47 : decode cX13_endsSelection 47 = .ok (.iadd, 1) := by decide +kernel
theorem dX13_endsSelection_48 : decode cX13_endsSelection 48 = .ok (.invokestatic 210, 3) := by decide +kernel
theorem dX13_endsSelection_51 : decode cX13_endsSelection 51 = .ok (.invokevirtual 754, 3) := by decide +kernel
theorem dX13_endsSelection_54 : decode cX13_endsSelection 54 = .ok (.istore_n 3, 1) := by decide +kernel
theorem dX13_endsSelection_55 : decode cX13_endsSelection 55 = .ok (.goto 99, 3) := by decide +kernel
theorem dX13_endsSelection_58 : decode cX13_endsSelection 58 = .ok (.aload_n 0, 1) := by decide +kernel
theorem dX13_endsSelection_59 : decode cX13_endsSelection 59 = .ok (.getfield 615, 3) := by decide +kernel
theorem dX13_endsSelection_62 : decode cX13_endsSelection 62 = .ok (.bipush 114, 2) := by decide +kernel
theorem dX13_endsSelection_64 : decode cX13_endsSelection 64 = .ok (.if_icmp .ne 15, 3) := by decide +kernel
theorem dX13_endsSelection_67 : decode cX13_endsSelection 67 = .ok (.aload_n 0, 1) := by decide +kernel
theorem dX13_endsSelection_68 : decode cX13_endsSelection 68 = .ok (.aload_n 0, 1) := by decide +kernel
theorem dX13_endsSelection_69 : decode cX13_endsSelection 69 = .ok (.getfield 612, 3) := by decide +kernel
theorem dX13_endsSelection_72 : decode cX13_endsSelection 72 = .ok (.invokevirtual 855, 3) := by decide +kernel
theorem dX13_endsSelection_75 : decode cX13_endsSelection 75 = .ok (.istore_n 3, 1) := by decide +kernel
theorem dX13_endsSelection_76 : decode cX13_endsSelection 76 = .ok (.goto 78, 3) := by decide +kernel
theorem dX13_endsSelection_79 : decode cX13_endsSelection 79 = .ok (.iload_n 2, 1) := by decide +kernel
theorem dX13_endsSelection_80 : decode cX13_endsSelection 80 = .ok (.bipush 62, 2) := by decide +kernel
theorem dX13_endsSelection_82 : decode cX13_endsSelection 82 = .ok (.if_icmp .eq 16, 3) := by decide +kernel
theorem dX13_endsSelection_85 : decode cX13_endsSelection 85 = .ok (.iload_n 2, 1) := by decide +kernel
theorem dX13_endsSelection_86 : decode cX13_endsSelection 86 = .ok (.bipush 60, 2) := by decide +kernel
theorem dX13_endsSelection_88 : decode cX13_endsSelection 88 = .ok (.if_icmp .eq 10, 3) := by decide +kernel
theorem dX13_endsSelection_91 : decode cX13_endsSelection 91 = .ok (.iload_n 2, 1) := by decide +kernel
theorem dX13_endsSelection_92 : decode cX13_endsSelection 92 = .ok (.sipush 614, 3) := by decide +kernel
theorem dX13_endsSelection_95 : decode cX13_endsSelection 95 = .ok (.if_icmp .ne 16, 3) := by decide +kernel
theorem dX13_endsSelection_98 : decode cX13_endsSelection 98 = .ok (.aload_n 0, 1) := by decide +kernel
theorem dX13_endsSelection_99 : decode cX13_endsSelection 99 = .ok (.iload_n 2, 1) := by decide +kernel
theorem dX13_endsSelection_100 : decode cX13_endsSelection 100 = .ok (.aload_n 0, 1) := by decide +kernel
theorem dX13_endsSelection_101 : decode cX13_endsSelection 101 = .ok (.getfield 642, 3) := by decide +kernel
theorem dX13_endsSelection_104 : decode cX13_endsSelection 104 = .ok (.invokevirtual 548, 3) := by decide +kernel
theorem dX13_endsSelection_107 : decode cX13_endsSelection 107 = .ok (.istore_n 3, 1) := by decide +kernel
theorem dX13_endsSelection_108 : decode cX13_endsSelection 108 = .ok (.goto 46, 3) := by decide +kernel
theorem dX13_endsSelection_111 : decode cX13_endsSelection 111 = .ok (.aload_n 0, 1) := by decide +kernel
theorem dX13_endsSelection_112 : decode cX13_endsSelection 112 = .ok (.getfield 395, 3) := by decide +kernel
theorem dX13_endsSelection_115 : decode cX13_endsSelection 115 = .ok (.iconst 3, 1) := by decide +kernel
theorem dX13_endsSelection_116 : decode cX13_endsSelection 116 = .ok (.if_icmp .ne 13, 3) := by decide +kernel
theorem dX13_endsSelection_119 : decode cX13_endsSelection 119 = .ok (.aload_n 0, 1) := by decide +kernel
theorem dX13_endsSelection_120 : decode cX13_endsSelection 120 = .ok (.invokevirtual 837, 3) := by decide +kernel
theorem dX13_endsSelection_123 : decode cX13_endsSelection 123 = .ok (.ifCond .eq 29, 3) := by decide +kernel
theorem dX13_endsSelection_126 : decode cX13_endsSelection 126 = .ok (.goto 10, 3) := by decide +kernel
theorem dX13_endsSelection_129 : decode cX13_endsSelection 129 = .ok (.aload_n 0, 1) := by decide +kernel
theorem dX13_endsSelection_130 : decode cX13_endsSelection 130 = .ok (.invokevirtual 417, 3) := by decide +kernel
theorem dX13_endsSelection_133 : decode cX13_endsSelection 133 = .ok (.ifCond .eq 19, 3) := by decide +kernel
theorem dX13_endsSelection_136 : decode cX13_endsSelection 136 = .ok (.aload_n 0, 1) := by decide +kernel
theorem dX13_endsSelection_137 : decode cX13_endsSelection 137 = .ok (.iload_n 2, 1) := by decide +kernel
theorem dX13_endsSelection_138 : decode cX13_endsSelection 138 = .ok (.aload_n 0, 1) := by decide +kernel
theorem dX13_endsSelection_139 : decode cX13_endsSelection 139 = .ok (.getfield 642, 3) := by decide +kernel
theorem dX13_endsSelection_142 : decode cX13_endsSelection 142 = .ok (.invokevirtual 548, 3) := by decide +kernel
theorem dX13_endsSelection_145 : decode cX13_endsSelection 145 = .ok (.ifCond .eq 7, 3) := by decide +kernel
theorem dX13_endsSelection_148 : decode cX13_endsSelection 148 = .ok (.iconst 1, 1) := by decide +kernel
theorem dX13_endsSelection_149 : decode cX13_endsSelection 149 = .ok (.goto 4, 3) := by decide +kernel
theorem dX13_endsSelection_152 : decode cX13_endsSelection 152 = .ok (.iconst 0, 1) := by decide +kernel
theorem dX13_endsSelection_153 : decode cX13_endsSelection 153 = .ok (.istore_n 3, 1) := by decide +kernel
theorem dX13_endsSelection_154 : decode cX13_endsSelection 154 = .ok (.aload_n 0, 1) := by decide +kernel
theorem dX13_endsSelection_155 : decode cX13_endsSelection 155 = .ok (.iload_n 3, 1) := by decide +kernel
theorem dX13_endsSelection_156 : decode cX13_endsSelection 156 = .ok (.ifCond .eq 10, 3) := by decide +kernel
theorem dX13_endsSelection_159 : decode cX13_endsSelection 159 = .ok (.aload_n 0, 1) := by decide +kernel
theorem dX13_endsSelection_160 : decode cX13_endsSelection 160 = .ok (.getfield 466, 3) := by decide +kernel
theorem dX13_endsSelection_163 : decode cX13_endsSelection 163 = .ok (.goto 4, 3) := by decide +kernel
theorem dX13_endsSelection_166 : decode cX13_endsSelection 166 = .ok (.iload_n 1, 1) := by decide +kernel
theorem dX13_endsSelection_167 : decode cX13_endsSelection 167 = .ok (.putfield 466, 3) := by decide +kernel
theorem dX13_endsSelection_170 : decode cX13_endsSelection 170 = .ok (.iload_n 3, 1) := by decide +kernel
theorem dX13_endsSelection_171 : decode cX13_endsSelection 171 = .ok (.ireturn, 1) := by decide +kernel
theorem dX13_codeAt_0 : decode cX13_codeAt 0 = .ok (.iload_n 1, 1) := by decide +kernel
theorem dX13_codeAt_1 : decode cX13_codeAt 1 = .ok (.aload_n 0, 1) := by decide +kernel
theorem dX13_codeAt_2 : decode cX13_codeAt 2 = .ok (.getfield 858, 3) := by decide +kernel
theorem dX13_codeAt_5 : decode cX13_codeAt 5 = .ok (.if_icmp .ge 12, 3) := by decide +kernel
theorem dX13_codeAt_8 : decode cX13_codeAt 8 = .ok (.aload_n 0, 1) := by decide +kernel
theorem dX13_codeAt_9 : decode cX13_codeAt 9 = .ok (.getfield 154, 3) := by decide +kernel
theorem dX13_codeAt_12 : decode cX13_codeAt 12 = .ok (.iload_n 1, 1) := by decide +kernel
theorem dX13_codeAt_13 : decode cX13_codeAt 13 = .ok (.iaload, 1) := by decide +kernel
theorem dX13_codeAt_14 : decode cX13_codeAt 14 = .ok (.goto 4, 3) := by decide +kernel
theorem dX13_codeAt_17 : decode cX13_codeAt 17 = .ok (.iconst (-1), 1) := by decide +kernel
theorem dX13_codeAt_18 : decode cX13_codeAt 18 = .ok (.ireturn, 1) := by decide +kernel
theorem dX13_address_0 : decode cX13_address 0 = .ok (.aload_n 0, 1) := by decide +kernel
theorem dX13_address_1 : decode cX13_address 1 = .ok (.aload_n 0, 1) := by decide +kernel
theorem dX13_address_2 : decode cX13_address 2 = .ok (.getfield 861, 3) := by decide +kernel
theorem dX13_address_5 : decode cX13_address 5 = .ok (.invokevirtual 864, 3) := by decide +kernel
theorem dX13_address_8 : decode cX13_address 8 = .ok (.istore_n 2, 1) := by decide +kernel
theorem dX13_address_9 : decode cX13_address 9 = .ok (.iload_n 2, 1) := by decide +kernel
theorem dX13_address_10 : decode cX13_address 10 = .ok (.invokestatic 822, 3) := by decide +kernel
theorem dX13_address_13 : decode cX13_address 13 = .ok (.ifCond .eq 88, 3) := by decide +kernel
theorem dX13_address_16 : decode cX13_address 16 = .ok (.iconst 0, 1) := by decide +kernel
theorem dX13_address_17 : decode cX13_address 17 = .ok (.istore_n 3, 1) := by decide +kernel
theorem dX13_address_18 : decode cX13_address 18 = .ok (.aload_n 0, 1) := by decide +kernel
theorem dX13_address_19 : decode cX13_address 19 = .ok (.aload_n 0, 1) := by decide +kernel
theorem dX13_address_20 : decode cX13_address 20 = .ok (.getfield 861, 3) := by decide +kernel
theorem dX13_address_23 : decode cX13_address 23 = .ok (.invokevirtual 864, 3) := by decide +kernel
theorem dX13_address_26 : decode cX13_address 26 = .ok (.invokestatic 822, 3) := by decide +kernel
theorem dX13_address_29 : decode cX13_address 29 = .ok (.ifCond .eq 39, 3) := by decide +kernel
theorem dX13_address_32 : decode cX13_address 32 = .ok (.sipush 1000, 3) := by decide +kernel
theorem dX13_address_35 : decode cX13_address 35 = .ok (.bipush 10, 2) := by decide +kernel
theorem dX13_address_37 : decode cX13_address 37 = .ok (.iload_n 3, 1) := by decide +kernel
theorem dX13_address_38 : decode cX13_address 38 = .ok (.imul, 1) := by decide +kernel
theorem dX13_address_39 : decode cX13_address 39 = .ok (.aload_n 0, 1) := by decide +kernel
theorem dX13_address_40 : decode cX13_address 40 = .ok (.aload_n 0, 1) := by decide +kernel
theorem dX13_address_41 : decode cX13_address 41 = .ok (.getfield 861, 3) := by decide +kernel
theorem dX13_address_44 : decode cX13_address 44 = .ok (.invokevirtual 864, 3) := by decide +kernel
theorem dX13_address_47 : decode cX13_address 47 = .ok (.iadd, 1) := by decide +kernel
theorem dX13_address_48 : decode cX13_address 48 = .ok (.bipush 48, 2) := by decide +kernel
theorem dX13_address_50 : decode cX13_address 50 = .ok (.isub, 1) := by decide +kernel
theorem dX13_address_51 : decode cX13_address 51 = .ok (.invokestatic 257, 3) := by decide +kernel
theorem dX13_address_54 : decode cX13_address 54 = .ok (.istore_n 3, 1) := by decide +kernel
theorem dX13_address_55 : decode cX13_address 55 = .ok (.aload_n 0, 1) := by decide +kernel
theorem dX13_address_56 : decode cX13_address 56 = .ok (.dup, 1) := by decide +kernel
theorem dX13_address_57 : decode cX13_address 57 = .ok (.getfield 861, 3) := by decide +kernel
theorem dX13_address_60 : decode cX13_address 60 = .ok (.iconst 1, 1) := by decide +kernel
theorem dX13_address_61 : decode cX13_address 61 = .ok (.iadd, 1) := by decide +kernel
theorem dX13_address_62 : decode cX13_address 62 = .ok (.putfield 861, 3) := by decide +kernel
theorem dX13_address_65 : decode cX13_address 65 = .ok (.goto (-47), 3) := by decide +kernel
theorem dX13_address_68 : decode cX13_address 68 = .ok (.iload_n 3, 1) := by decide +kernel
theorem dX13_address_69 : decode cX13_address 69 = .ok (.ifCond .ne 16, 3) := by decide +kernel
theorem dX13_address_72 : decode cX13_address 72 = .ok (.iload_n 1, 1) := by decide +kernel
theorem dX13_address_73 : decode cX13_address 73 = .ok (.ifCond .eq 8, 3) := by decide +kernel
theorem dX13_address_76 : decode cX13_address 76 = .ok (.bipush (-3), 2) := by decide +kernel
theorem dX13_address_78 : decode cX13_address 78 = .ok (.goto 22, 3) := by decide +kernel
theorem dX13_address_81 : decode cX13_address 81 = .ok (.iconst (-1), 1) := by decide +kernel
theorem dX13_address_82 : decode cX13_address 82 = .ok (.goto 18, 3) := by decide +kernel
theorem dX13_address_85 : decode cX13_address 85 = .ok (.iload_n 3, 1) := by decide +kernel
theorem dX13_address_86 : decode cX13_address 86 = .ok (.aload_n 0, 1) := by decide +kernel
theorem dX13_address_87 : decode cX13_address 87 = .ok (.getfield 13, 3) := by decide +kernel
theorem dX13_address_90 : decode cX13_address 90 = .ok (.if_icmp .gt 9, 3) := by decide +kernel
theorem dX13_address_93 : decode cX13_address 93 = .ok (.iload_n 3, 1) := by decide +kernel
theorem dX13_address_94 : decode cX13_address 94 = .ok (.iconst 1, 1) := by decide +kernel
theorem dX13_address_95 : decode cX13_address 95 = .ok (.isub, 1) := by decide +kernel
theorem dX13_address_96 : decode cX13_address 96 = .ok (.goto 4, 3) := by decide +kernel
theorem dX13_address_99 : decode cX13_address 99 = .ok (.iconst (-1), 1) := by decide +kernel
theorem dX13_address_100 : decode cX13_address 100 = .ok (.ireturn, 1) := by decide +kernel
theorem dX13_address_101 : decode cX13_address 101 = .ok (.iload_n 2, 1) := by decide +kernel
theorem dX13_address_102 : decode cX13_address 102 = .ok (.bipush 46, 2) := by decide +kernel
theorem dX13_address_104 : decode cX13_address 104 = .ok (.if_icmp .eq 9, 3) := by decide +kernel
theorem dX13_address_107 : decode cX13_address 107 = .ok (.iload_n 2, 1) := by decide +kernel
theorem dX13_address_108 : decode cX13_address 108 = .ok (.bipush 36, 2) := by decide +kernel
theorem dX13_address_110 : decode cX13_address 110 = .ok (.if_icmp .ne 33, 3) := by decide +kernel
theorem dX13_address_113 : decode cX13_address 113 = .ok (.aload_n 0, 1) := by decide +kernel
theorem dX13_address_114 : decode cX13_address 114 = .ok (.dup, 1) := by decide +kernel
theorem dX13_address_115 : decode cX13_address 115 = .ok (.getfield 861, 3) := by decide +kernel
theorem dX13_address_118 : decode cX13_address 118 = .ok (.iconst 1, 1) := by decide +kernel
theorem dX13_address_119 : decode cX13_address 119 = .ok (.iadd, 1) := by decide +kernel
theorem dX13_address_120 : decode cX13_address 120 = .ok (.putfield 861, 3) := by decide +kernel
theorem dX13_address_123 : decode cX13_address 123 = .ok (.iload_n 2, 1) := by decide +kernel
theorem dX13_address_124 : decode cX13_address 124 = .ok (.bipush 46, 2) := by decide +kernel
theorem dX13_address_126 : decode cX13_address 126 = .ok (.if_icmp .ne 10, 3) := by decide +kernel
theorem dX13_address_129 : decode cX13_address 129 = .ok (.aload_n 0, 1) := by decide +kernel
theorem dX13_address_130 : decode cX13_address 130 = .ok (.getfield 213, 3) := by decide +kernel
theorem dX13_address_133 : decode cX13_address 133 = .ok (.goto 9, 3) := by decide +kernel
theorem dX13_address_136 : decode cX13_address 136 = .ok (.aload_n 0, 1) := by decide +kernel
theorem dX13_address_137 : decode cX13_address 137 = .ok (.getfield 13, 3) := by decide +kernel
theorem dX13_address_140 : decode cX13_address 140 = .ok (.iconst 1, 1) := by decide +kernel
theorem dX13_address_141 : decode cX13_address 141 = .ok (.isub, 1) := by decide +kernel
theorem dX13_address_142 : decode cX13_address 142 = .ok (.ireturn, 1) := by decide +kernel
theorem dX13_address_143 : decode cX13_address 143 = .ok (.iload_n 2, 1) := by decide +kernel
theorem dX13_address_144 : decode cX13_address 144 = .ok (.bipush 39, 2) := by decide +kernel
theorem dX13_address_146 : decode cX13_address 146 = .ok (.if_icmp .ne 48, 3) := by decide +kernel
theorem dX13_address_149 : decode cX13_address 149 = .ok (.aload_n 0, 1) := by decide +kernel
theorem dX13_address_150 : decode cX13_address 150 = .ok (.aload_n 0, 1) := by decide +kernel
theorem dX13_address_151 : decode cX13_address 151 = .ok (.getfield 861, 3) := by decide +kernel
theorem dX13_address_154 : decode cX13_address 154 = .ok (.iconst 1, 1) := by decide +kernel
theorem dX13_address_155 : decode cX13_address 155 = .ok (.iadd, 1) := by decide +kernel
theorem dX13_address_156 : decode cX13_address 156 = .ok (.invokevirtual 864, 3) := by decide +kernel
theorem dX13_address_159 : decode cX13_address 159 = .ok (.invokestatic 618, 3) := by decide +kernel
theorem dX13_address_162 : decode cX13_address 162 = .ok (.ifCond .eq 32, 3) := by decide +kernel
theorem dX13_address_165 : decode cX13_address 165 = .ok (.aload_n 0, 1) := by decide +kernel
theorem dX13_address_166 : decode cX13_address 166 = .ok (.dup, 1) := by decide +kernel
theorem dX13_address_167 : decode cX13_address 167 = .ok (.getfield 861, 3) := by decide +kernel
theorem dX13_address_170 : decode cX13_address 170 = .ok (.iconst 2, 1) := by decide +kernel
theorem dX13_address_171 : decode cX13_address 171 = .ok (.iadd, 1) := by decide +kernel
theorem dX13_address_172 : decode cX13_address 172 = .ok (.putfield 861, 3) := by decide +kernel
theorem dX13_address_175 : decode cX13_address 175 = .ok (.aload_n 0, 1) := by decide +kernel
theorem dX13_address_176 : decode cX13_address 176 = .ok (.getfield 33, 3) := by decide +kernel
theorem dX13_address_179 : decode cX13_address 179 = .ok (.aload_n 0, 1) := by decide +kernel
theorem dX13_address_180 : decode cX13_address 180 = .ok (.aload_n 0, 1) := by decide +kernel
theorem dX13_address_181 : decode cX13_address 181 = .ok (.getfield 861, 3) := by decide +kernel
theorem dX13_address_184 : decode cX13_address 184 = .ok (.iconst 1, 1) := by decide +kernel
theorem dX13_address_185 : decode cX13_address 185 = .ok (.isub, 1) := by decide +kernel
theorem dX13_address_186 : decode cX13_address 186 = .ok (.invokevirtual 864, 3) := by decide +kernel
theorem dX13_address_189 : decode cX13_address 189 = .ok (.bipush 97, 2) := by decide +kernel
theorem dX13_address_191 : decode cX13_address 191 = .ok (.isub, 1) := by decide +kernel
theorem dX13_address_192 : decode cX13_address 192 = .ok (.iaload, 1) := by decide +kernel
theorem dX13_address_193 : decode cX13_address 193 = .ok (.ireturn, 1) := by decide +kernel
theorem dX13_address_194 : decode cX13_address 194 = .ok (.iload_n 2, 1) := by decide +kernel
theorem dX13_address_195 : decode cX13_address 195 = .ok (.bipush 39, 2) := by decide +kernel
theorem dX13_address_197 : decode cX13_address 197 = .ok (.if_icmp .ne 7, 3) := by decide +kernel
theorem dX13_address_200 : decode cX13_address 200 = .ok (.iconst (-1), 1) := by decide +kernel
theorem dX13_address_201 : decode cX13_address 201 = .ok (.goto 5, 3) := by decide +kernel
theorem dX13_address_204 : decode cX13_address 204 = .ok (.bipush (-2), 2) := by decide +kernel
theorem dX13_address_206 : decode cX13_address 206 = .ok (.ireturn, 1) := by decide +kernel
theorem dX13_readsRange_0 : decode cX13_readsRange 0 = .ok (.aload_n 0, 1) := by decide +kernel
theorem dX13_readsRange_1 : decode cX13_readsRange 1 = .ok (.iconst 1, 1) := by decide +kernel
theorem dX13_readsRange_2 : decode cX13_readsRange 2 = .ok (.putfield 867, 3) := by decide +kernel
theorem dX13_readsRange_5 : decode cX13_readsRange 5 = .ok (.aload_n 0, 1) := by decide +kernel
theorem dX13_readsRange_6 : decode cX13_readsRange 6 = .ok (.iconst 0, 1) := by decide +kernel
theorem dX13_readsRange_7 : decode cX13_readsRange 7 = .ok (.putfield 870, 3) := by decide +kernel
theorem dX13_readsRange_10 : decode cX13_readsRange 10 = .ok (.aload_n 0, 1) := by decide +kernel
theorem dX13_readsRange_11 : decode cX13_readsRange 11 = .ok (.aload_n 0, 1) := by decide +kernel
theorem dX13_readsRange_12 : decode cX13_readsRange 12 = .ok (.getfield 13, 3) := by decide +kernel
theorem dX13_readsRange_15 : decode cX13_readsRange 15 = .ok (.iconst 1, 1) := by decide +kernel
theorem dX13_readsRange_16 : decode cX13_readsRange 16 = .ok (.isub, 1) := by decide +kernel
theorem dX13_readsRange_17 : decode cX13_readsRange 17 = .ok (.putfield 873, 3) := by decide +kernel
theorem dX13_readsRange_20 : decode cX13_readsRange 20 = .ok (.aload_n 0, 1) := by decide +kernel
theorem dX13_readsRange_21 : decode cX13_readsRange 21 = .ok (.aload_n 0, 1) := by decide +kernel
theorem dX13_readsRange_22 : decode cX13_readsRange 22 = .ok (.getfield 861, 3) := by decide +kernel
theorem dX13_readsRange_25 : decode cX13_readsRange 25 = .ok (.invokevirtual 864, 3) := by decide +kernel
theorem dX13_readsRange_28 : decode cX13_readsRange 28 = .ok (.bipush 37, 2) := by decide +kernel
theorem dX13_readsRange_30 : decode cX13_readsRange 30 = .ok (.if_icmp .ne 15, 3) := by decide +kernel
theorem dX13_readsRange_33 : decode cX13_readsRange 33 = .ok (.aload_n 0, 1) := by decide +kernel
theorem dX13_readsRange_34 : decode cX13_readsRange 34 = .ok (.dup, 1) := by decide +kernel
theorem dX13_readsRange_35 : decode cX13_readsRange 35 = .ok (.getfield 861, 3) := by decide +kernel
theorem dX13_readsRange_38 : decode cX13_readsRange 38 = .ok (.iconst 1, 1) := by decide +kernel
theorem dX13_readsRange_39 : decode cX13_readsRange 39 = .ok (.iadd, 1) := by decide +kernel
theorem dX13_readsRange_40 : decode cX13_readsRange 40 = .ok (.putfield 861, 3) := by decide +kernel
theorem dX13_readsRange_43 : decode cX13_readsRange 43 = .ok (.iconst 1, 1) := by decide +kernel
theorem dX13_readsRange_44 : decode cX13_readsRange 44 = .ok (.ireturn, 1) := by decide +kernel
theorem dX13_readsRange_45 : decode cX13_readsRange 45 = .ok (.aload_n 0, 1) := by decide +kernel
theorem dX13_readsRange_46 : decode cX13_readsRange 46 = .ok (.iconst 0, 1) := by decide +kernel
theorem dX13_readsRange_47 : decode cX13_readsRange 47 = .ok (.invokevirtual 876, 3) := by decide +kernel
theorem dX13_readsRange_50 : decode cX13_readsRange 50 = .ok (.istore_n 1, 1) := by decide +kernel
theorem dX13_readsRange_51 : decode cX13_readsRange 51 = .ok (.iload_n 1, 1) := by decide +kernel
theorem dX13_readsRange_52 : decode cX13_readsRange 52 = .ok (.bipush (-2), 2) := by decide +kernel
theorem dX13_readsRange_54 : decode cX13_readsRange 54 = .ok (.if_icmp .ne 26, 3) := by decide +kernel
theorem dX13_readsRange_57 : decode cX13_readsRange 57 = .ok (.aload_n 0, 1) := by decide +kernel
theorem dX13_readsRange_58 : decode cX13_readsRange 58 = .ok (.iconst 0, 1) := by decide +kernel
theorem dX13_readsRange_59 : decode cX13_readsRange 59 = .ok (.putfield 867, 3) := by decide +kernel
theorem dX13_readsRange_62 : decode cX13_readsRange 62 = .ok (.aload_n 0, 1) := by decide +kernel
theorem dX13_readsRange_63 : decode cX13_readsRange 63 = .ok (.aload_n 0, 1) := by decide +kernel
theorem dX13_readsRange_64 : decode cX13_readsRange 64 = .ok (.getfield 213, 3) := by decide +kernel
theorem dX13_readsRange_67 : decode cX13_readsRange 67 = .ok (.putfield 870, 3) := by decide +kernel
theorem dX13_readsRange_70 : decode cX13_readsRange 70 = .ok (.aload_n 0, 1) := by decide +kernel
theorem dX13_readsRange_71 : decode cX13_readsRange 71 = .ok (.aload_n 0, 1) := by decide +kernel
theorem dX13_readsRange_72 : decode cX13_readsRange 72 = .ok (.getfield 213, 3) := by decide +kernel
theorem dX13_readsRange_75 : decode cX13_readsRange 75 = .ok (.putfield 873, 3) := by decide +kernel
theorem dX13_readsRange_78 : decode cX13_readsRange 78 = .ok (.iconst 1, 1) := by decide +kernel
theorem dX13_readsRange_79 : decode cX13_readsRange 79 = .ok (.ireturn, 1) := by decide +kernel
theorem dX13_readsRange_80 : decode cX13_readsRange 80 = .ok (.iload_n 1, 1) := by decide +kernel
theorem dX13_readsRange_81 : decode cX13_readsRange 81 = .ok (.istore_n 2, 1) := by decide +kernel
theorem dX13_readsRange_82 : decode cX13_readsRange 82 = .ok (.iload_n 1, 1) := by decide +kernel
theorem dX13_readsRange_83 : decode cX13_readsRange 83 = .ok (.ifCond .lt 32, 3) := by decide +kernel
theorem dX13_readsRange_86 : decode cX13_readsRange 86 = .ok (.aload_n 0, 1) := by decide +kernel
theorem dX13_readsRange_87 : decode cX13_readsRange 87 = .ok (.aload_n 0, 1) := by decide +kernel
theorem dX13_readsRange_88 : decode cX13_readsRange 88 = .ok (.getfield 861, 3) := by decide +kernel
theorem dX13_readsRange_91 : decode cX13_readsRange 91 = .ok (.invokevirtual 864, 3) := by decide +kernel
theorem dX13_readsRange_94 : decode cX13_readsRange 94 = .ok (.bipush 44, 2) := by decide +kernel
theorem dX13_readsRange_96 : decode cX13_readsRange 96 = .ok (.if_icmp .ne 19, 3) := by decide +kernel
theorem dX13_readsRange_99 : decode cX13_readsRange 99 = .ok (.aload_n 0, 1) := by decide +kernel
theorem dX13_readsRange_100 : decode cX13_readsRange 100 = .ok (.dup, 1) := by decide +kernel
theorem dX13_readsRange_101 : decode cX13_readsRange 101 = .ok (.getfield 861, 3) := by decide +kernel
theorem dX13_readsRange_104 : decode cX13_readsRange 104 = .ok (.iconst 1, 1) := by decide +kernel
theorem dX13_readsRange_105 : decode cX13_readsRange 105 = .ok (.iadd, 1) := by decide +kernel
theorem dX13_readsRange_106 : decode cX13_readsRange 106 = .ok (.putfield 861, 3) := by decide +kernel
theorem dX13_readsRange_109 : decode cX13_readsRange 109 = .ok (.aload_n 0, 1) := by decide +kernel
theorem dX13_readsRange_110 : decode cX13_readsRange 110 = .ok (.iconst 0, 1) := by decide +kernel
theorem dX13_readsRange_111 : decode cX13_readsRange 111 = .ok (.invokevirtual 876, 3) := by decide +kernel
theorem dX13_readsRange_114 : decode cX13_readsRange 114 = .ok (.istore_n 2, 1) := by decide +kernel
theorem dX13_readsRange_115 : decode cX13_readsRange 115 = .ok (.aload_n 0, 1) := by decide +kernel
theorem dX13_readsRange_116 : decode cX13_readsRange 116 = .ok (.iload_n 1, 1) := by decide +kernel
theorem dX13_readsRange_117 : decode cX13_readsRange 117 = .ok (.putfield 870, 3) := by decide +kernel
theorem dX13_readsRange_120 : decode cX13_readsRange 120 = .ok (.aload_n 0, 1) := by decide +kernel
theorem dX13_readsRange_121 : decode cX13_readsRange 121 = .ok (.iload_n 2, 1) := by decide +kernel
theorem dX13_readsRange_122 : decode cX13_readsRange 122 = .ok (.putfield 873, 3) := by decide +kernel
theorem dX13_readsRange_125 : decode cX13_readsRange 125 = .ok (.iload_n 1, 1) := by decide +kernel
theorem dX13_readsRange_126 : decode cX13_readsRange 126 = .ok (.ifCond .lt 12, 3) := by decide +kernel
theorem dX13_readsRange_129 : decode cX13_readsRange 129 = .ok (.iload_n 2, 1) := by decide +kernel
theorem dX13_readsRange_130 : decode cX13_readsRange 130 = .ok (.iload_n 1, 1) := by decide +kernel
theorem dX13_readsRange_131 : decode cX13_readsRange 131 = .ok (.if_icmp .lt 7, 3) := by decide +kernel
theorem dX13_readsRange_134 : decode cX13_readsRange 134 = .ok (.iconst 1, 1) := by decide +kernel
theorem dX13_readsRange_135 : decode cX13_readsRange 135 = .ok (.goto 4, 3) := by decide +kernel
theorem dX13_readsRange_138 : decode cX13_readsRange 138 = .ok (.iconst 0, 1) := by decide +kernel
theorem dX13_readsRange_139 : decode cX13_readsRange 139 = .ok (.ireturn, 1) := by decide +kernel
theorem dX13_isEnd_0 : decode cX13_isEnd 0 = .ok (.aload_n 0, 1) := by decide +kernel
theorem dX13_isEnd_1 : decode cX13_isEnd 1 = .ok (.getfield 861, 3) := by decide +kernel
theorem dX13_isEnd_4 : decode cX13_isEnd 4 = .ok (.aload_n 0, 1) := by decide +kernel
theorem dX13_isEnd_5 : decode cX13_isEnd 5 = .ok (.getfield 858, 3) := by decide +kernel
theorem dX13_isEnd_8 : decode cX13_isEnd 8 = .ok (.if_icmp .ne 7, 3) := by decide +kernel
theorem dX13_isEnd_11 : decode cX13_isEnd 11 = .ok (.iconst 1, 1) := by decide +kernel
theorem dX13_isEnd_12 : decode cX13_isEnd 12 = .ok (.goto 4, 3) := by decide +kernel
theorem dX13_isEnd_15 : decode cX13_isEnd 15 = .ok (.iconst 0, 1) := by decide +kernel
theorem dX13_isEnd_16 : decode cX13_isEnd 16 = .ok (.ireturn, 1) := by decide +kernel
theorem dX13_doesMove_0 : decode cX13_doesMove 0 = .ok (.aload_n 0, 1) := by decide +kernel
theorem dX13_doesMove_1 : decode cX13_doesMove 1 = .ok (.iconst 1, 1) := by decide +kernel
theorem dX13_doesMove_2 : decode cX13_doesMove 2 = .ok (.invokevirtual 876, 3) := by decide +kernel
theorem dX13_doesMove_5 : decode cX13_doesMove 5 = .ok (.istore_n 1, 1) := by decide +kernel
theorem dX13_doesMove_6 : decode cX13_doesMove 6 = .ok (.aload_n 0, 1) := by decide +kernel
theorem dX13_doesMove_7 : decode cX13_doesMove 7 = .ok (.getfield 873, 3) := by decide +kernel
theorem dX13_doesMove_10 : decode cX13_doesMove 10 = .ok (.aload_n 0, 1) := by decide +kernel
theorem dX13_doesMove_11 : decode cX13_doesMove 11 = .ok (.getfield 870, 3) := by decide +kernel
theorem dX13_doesMove_14 : decode cX13_doesMove 14 = .ok (.isub, 1) := by decide +kernel
theorem dX13_doesMove_15 : decode cX13_doesMove 15 = .ok (.iconst 1, 1) := by decide +kernel
theorem dX13_doesMove_16 : decode cX13_doesMove 16 = .ok (.iadd, 1) := by decide +kernel
theorem dX13_doesMove_17 : decode cX13_doesMove 17 = .ok (.istore_n 2, 1) := by decide +kernel
theorem dX13_doesMove_18 : decode cX13_doesMove 18 = .ok (.iload_n 1, 1) := by decide +kernel
theorem dX13_doesMove_19 : decode cX13_doesMove 19 = .ok (.bipush (-3), 2) := by decide +kernel
theorem dX13_doesMove_21 : decode cX13_doesMove 21 = .ok (.if_icmp .ne 7, 3) := by decide +kernel
theorem dX13_doesMove_24 : decode cX13_doesMove 24 = .ok (.iconst 0, 1) := by decide +kernel
theorem dX13_doesMove_25 : decode cX13_doesMove 25 = .ok (.goto 14, 3) := by decide +kernel
theorem dX13_doesMove_28 : decode cX13_doesMove 28 = .ok (.iload_n 1, 1) := by decide +kernel
theorem dX13_doesMove_29 : decode cX13_doesMove 29 = .ok (.ifCond .ge 7, 3) := by decide +kernel
theorem dX13_doesMove_32 : decode cX13_doesMove 32 = .ok (.iconst (-1), 1) := by decide +kernel
theorem dX13_doesMove_33 : decode cX13_doesMove 33 = .ok (.goto 6, 3) := by decide +kernel
theorem dX13_doesMove_36 : decode cX13_doesMove 36 = .ok (.iload_n 1, 1) := by decide +kernel
theorem dX13_doesMove_37 : decode cX13_doesMove 37 = .ok (.iconst 1, 1) := by decide +kernel
theorem dX13_doesMove_38 : decode cX13_doesMove 38 = .ok (.iadd, 1) := by decide +kernel
theorem dX13_doesMove_39 : decode cX13_doesMove 39 = .ok (.istore_n 1, 1) := by decide +kernel
theorem dX13_doesMove_40 : decode cX13_doesMove 40 = .ok (.iload_n 1, 1) := by decide +kernel
theorem dX13_doesMove_41 : decode cX13_doesMove 41 = .ok (.ifCond .lt 26, 3) := by decide +kernel
theorem dX13_doesMove_44 : decode cX13_doesMove 44 = .ok (.aload_n 0, 1) := by decide +kernel
theorem dX13_doesMove_45 : decode cX13_doesMove 45 = .ok (.invokevirtual 880, 3) := by decide +kernel
theorem dX13_doesMove_48 : decode cX13_doesMove 48 = .ok (.ifCond .eq 19, 3) := by decide +kernel
theorem dX13_doesMove_51 : decode cX13_doesMove 51 = .ok (.iload_n 1, 1) := by decide +kernel
theorem dX13_doesMove_52 : decode cX13_doesMove 52 = .ok (.aload_n 0, 1) := by decide +kernel
theorem dX13_doesMove_53 : decode cX13_doesMove 53 = .ok (.getfield 870, 3) := by decide +kernel
theorem dX13_doesMove_56 : decode cX13_doesMove 56 = .ok (.if_icmp .le 13, 3) := by decide +kernel
theorem dX13_doesMove_59 : decode cX13_doesMove 59 = .ok (.iload_n 1, 1) := by decide +kernel
theorem dX13_doesMove_60 : decode cX13_doesMove 60 = .ok (.aload_n 0, 1) := by decide +kernel
theorem dX13_doesMove_61 : decode cX13_doesMove 61 = .ok (.getfield 873, 3) := by decide +kernel
theorem dX13_doesMove_64 : decode cX13_doesMove 64 = .ok (.if_icmp .gt 5, 3) := by decide +kernel
theorem dX13_doesMove_67 : decode cX13_doesMove 67 = .ok (.iconst 0, 1) := by decide +kernel
theorem dX13_doesMove_68 : decode cX13_doesMove 68 = .ok (.ireturn, 1) := by decide +kernel
theorem dX13_doesMove_69 : decode cX13_doesMove 69 = .ok (.iload_n 1, 1) := by decide +kernel
theorem dX13_doesMove_70 : decode cX13_doesMove 70 = .ok (.aload_n 0, 1) := by decide +kernel
theorem dX13_doesMove_71 : decode cX13_doesMove 71 = .ok (.getfield 870, 3) := by decide +kernel
theorem dX13_doesMove_74 : decode cX13_doesMove 74 = .ok (.if_icmp .eq 13, 3) := by decide +kernel
theorem dX13_doesMove_77 : decode cX13_doesMove 77 = .ok (.iload_n 1, 1) := by decide +kernel
theorem dX13_doesMove_78 : decode cX13_doesMove 78 = .ok (.aload_n 0, 1) := by decide +kernel
theorem dX13_doesMove_79 : decode cX13_doesMove 79 = .ok (.getfield 873, 3) := by decide +kernel
theorem dX13_doesMove_82 : decode cX13_doesMove 82 = .ok (.iconst 1, 1) := by decide +kernel
theorem dX13_doesMove_83 : decode cX13_doesMove 83 = .ok (.iadd, 1) := by decide +kernel
theorem dX13_doesMove_84 : decode cX13_doesMove 84 = .ok (.if_icmp .ne 13, 3) := by decide +kernel
theorem dX13_doesMove_87 : decode cX13_doesMove 87 = .ok (.aload_n 0, 1) := by decide +kernel
theorem dX13_doesMove_88 : decode cX13_doesMove 88 = .ok (.aload_n 0, 1) := by decide +kernel
theorem dX13_doesMove_89 : decode cX13_doesMove 89 = .ok (.getfield 873, 3) := by decide +kernel
theorem dX13_doesMove_92 : decode cX13_doesMove 92 = .ok (.invokevirtual 507, 3) := by decide +kernel
theorem dX13_doesMove_95 : decode cX13_doesMove 95 = .ok (.iconst 1, 1) := by decide +kernel
theorem dX13_doesMove_96 : decode cX13_doesMove 96 = .ok (.ireturn, 1) := by decide +kernel
theorem dX13_doesMove_97 : decode cX13_doesMove 97 = .ok (.aload_n 0, 1) := by decide +kernel
theorem dX13_doesMove_98 : decode cX13_doesMove 98 = .ok (.invokevirtual 883, 3) := by decide +kernel
theorem dX13_doesMove_101 : decode cX13_doesMove 101 = .ok (.aload_n 0, 1) := by decide +kernel
theorem dX13_doesMove_102 : decode cX13_doesMove 102 = .ok (.aload_n 0, 1) := by decide +kernel
theorem dX13_doesMove_103 : decode cX13_doesMove 103 = .ok (.getfield 870, 3) := by decide +kernel
theorem dX13_doesMove_106 : decode cX13_doesMove 106 = .ok (.aload_n 0, 1) := by decide +kernel
theorem dX13_doesMove_107 : decode cX13_doesMove 107 = .ok (.getfield 873, 3) := by decide +kernel
theorem dX13_doesMove_110 : decode cX13_doesMove 110 = .ok (.invokevirtual 886, 3) := by decide +kernel
theorem dX13_doesMove_113 : decode cX13_doesMove 113 = .ok (.iload_n 1, 1) := by decide +kernel
theorem dX13_doesMove_114 : decode cX13_doesMove 114 = .ok (.aload_n 0, 1) := by decide +kernel
theorem dX13_doesMove_115 : decode cX13_doesMove 115 = .ok (.getfield 873, 3) := by decide +kernel
theorem dX13_doesMove_118 : decode cX13_doesMove 118 = .ok (.if_icmp .le 9, 3) := by decide +kernel
theorem dX13_doesMove_121 : decode cX13_doesMove 121 = .ok (.iload_n 1, 1) := by decide +kernel
theorem dX13_doesMove_122 : decode cX13_doesMove 122 = .ok (.iload_n 2, 1) := by decide +kernel
theorem dX13_doesMove_123 : decode cX13_doesMove 123 = .ok (.isub, 1) := by decide +kernel
theorem dX13_doesMove_124 : decode cX13_doesMove 124 = .ok (.goto 4, 3) := by decide +kernel
theorem dX13_doesMove_127 : decode cX13_doesMove 127 = .ok (.iload_n 1, 1) := by decide +kernel
theorem dX13_doesMove_128 : decode cX13_doesMove 128 = .ok (.istore_n 3, 1) := by decide +kernel
theorem dX13_doesMove_129 : decode cX13_doesMove 129 = .ok (.aload_n 0, 1) := by decide +kernel
theorem dX13_doesMove_130 : decode cX13_doesMove 130 = .ok (.iload_n 3, 1) := by decide +kernel
theorem dX13_doesMove_131 : decode cX13_doesMove 131 = .ok (.iload_n 2, 1) := by decide +kernel
theorem dX13_doesMove_132 : decode cX13_doesMove 132 = .ok (.invokevirtual 278, 3) := by decide +kernel
theorem dX13_doesMove_135 : decode cX13_doesMove 135 = .ok (.iconst 0, 1) := by decide +kernel
theorem dX13_doesMove_136 : decode cX13_doesMove 136 = .ok (.istore 4, 2) := by decide +kernel
theorem dX13_doesMove_138 : decode cX13_doesMove 138 = .ok (.iload 4, 2) := by decide +kernel
theorem dX13_doesMove_140 : decode cX13_doesMove 140 = .ok (.iload_n 2, 1) := by decide +kernel
theorem dX13_doesMove_141 : decode cX13_doesMove 141 = .ok (.if_icmp .ge 19, 3) := by decide +kernel
theorem dX13_doesMove_144 : decode cX13_doesMove 144 = .ok (.aload_n 0, 1) := by decide +kernel
theorem dX13_doesMove_145 : decode cX13_doesMove 145 = .ok (.iload_n 3, 1) := by decide +kernel
theorem dX13_doesMove_146 : decode cX13_doesMove 146 = .ok (.iload 4, 2) := by decide +kernel
theorem dX13_doesMove_148 : decode cX13_doesMove 148 = .ok (.iadd, 1) := by decide +kernel
theorem dX13_doesMove_149 : decode cX13_doesMove 149 = .ok (.iload 4, 2) := by decide +kernel
theorem dX13_doesMove_151 : decode cX13_doesMove 151 = .ok (.invokevirtual 889, 3) := by decide +kernel
theorem dX13_doesMove_154 : decode cX13_doesMove 154 = .ok (.iinc 4 1, 3) := by decide +kernel
theorem dX13_doesMove_157 : decode cX13_doesMove 157 = .ok (.goto (-19), 3) := by decide +kernel
theorem dX13_doesMove_160 : decode cX13_doesMove 160 = .ok (.aload_n 0, 1) := by decide +kernel
theorem dX13_doesMove_161 : decode cX13_doesMove 161 = .ok (.iload_n 3, 1) := by decide +kernel
theorem dX13_doesMove_162 : decode cX13_doesMove 162 = .ok (.iload_n 2, 1) := by decide +kernel
theorem dX13_doesMove_163 : decode cX13_doesMove 163 = .ok (.iadd, 1) := by decide +kernel
theorem dX13_doesMove_164 : decode cX13_doesMove 164 = .ok (.iconst 1, 1) := by decide +kernel
theorem dX13_doesMove_165 : decode cX13_doesMove 165 = .ok (.isub, 1) := by decide +kernel
theorem dX13_doesMove_166 : decode cX13_doesMove 166 = .ok (.invokevirtual 507, 3) := by decide +kernel
theorem dX13_doesMove_169 : decode cX13_doesMove 169 = .ok (.iconst 1, 1) := by decide +kernel
theorem dX13_doesMove_170 : decode cX13_doesMove 170 = .ok (.ireturn, 1) := by decide +kernel
theorem dX13_holdsLines_0 : decode cX13_holdsLines 0 = .ok (.aload_n 0, 1) := by decide +kernel
theorem dX13_holdsLines_1 : decode cX13_holdsLines 1 = .ok (.getfield 870, 3) := by decide +kernel
theorem dX13_holdsLines_4 : decode cX13_holdsLines 4 = .ok (.istore_n 1, 1) := by decide +kernel
theorem dX13_holdsLines_5 : decode cX13_holdsLines 5 = .ok (.iload_n 1, 1) := by decide +kernel
theorem dX13_holdsLines_6 : decode cX13_holdsLines 6 = .ok (.aload_n 0, 1) := by decide +kernel
theorem dX13_holdsLines_7 : decode cX13_holdsLines 7 = .ok (.getfield 873, 3) := by decide +kernel
theorem dX13_holdsLines_10 : decode cX13_holdsLines 10 = .ok (.if_icmp .gt 66, 3) := by decide +kernel
theorem dX13_holdsLines_13 : decode cX13_holdsLines 13 = .ok (.aload_n 0, 1) := by decide +kernel
theorem dX13_holdsLines_14 : decode cX13_holdsLines 14 = .ok (.getfield 157, 3) := by decide +kernel
theorem dX13_holdsLines_17 : decode cX13_holdsLines 17 = .ok (.iload_n 1, 1) := by decide +kernel
theorem dX13_holdsLines_18 : decode cX13_holdsLines 18 = .ok (.aload_n 0, 1) := by decide +kernel
theorem dX13_holdsLines_19 : decode cX13_holdsLines 19 = .ok (.getfield 870, 3) := by decide +kernel
theorem dX13_holdsLines_22 : decode cX13_holdsLines 22 = .ok (.isub, 1) := by decide +kernel
theorem dX13_holdsLines_23 : decode cX13_holdsLines 23 = .ok (.aload_n 0, 1) := by decide +kernel
theorem dX13_holdsLines_24 : decode cX13_holdsLines 24 = .ok (.getfield 17, 3) := by decide +kernel
theorem dX13_holdsLines_27 : decode cX13_holdsLines 27 = .ok (.iload_n 1, 1) := by decide +kernel
theorem dX13_holdsLines_28 : decode cX13_holdsLines 28 = .ok (.iaload, 1) := by decide +kernel
theorem dX13_holdsLines_29 : decode cX13_holdsLines 29 = .ok (.iastore, 1) := by decide +kernel
theorem dX13_holdsLines_30 : decode cX13_holdsLines 30 = .ok (.iconst 0, 1) := by decide +kernel
theorem dX13_holdsLines_31 : decode cX13_holdsLines 31 = .ok (.istore_n 2, 1) := by decide +kernel
theorem dX13_holdsLines_32 : decode cX13_holdsLines 32 = .ok (.iload_n 2, 1) := by decide +kernel
theorem dX13_holdsLines_33 : decode cX13_holdsLines 33 = .ok (.aload_n 0, 1) := by decide +kernel
theorem dX13_holdsLines_34 : decode cX13_holdsLines 34 = .ok (.getfield 17, 3) := by decide +kernel
theorem dX13_holdsLines_37 : decode cX13_holdsLines 37 = .ok (.iload_n 1, 1) := by decide +kernel
theorem dX13_holdsLines_38 : decode cX13_holdsLines 38 = .ok (.iaload, 1) := by decide +kernel
theorem dX13_holdsLines_39 : decode cX13_holdsLines 39 = .ok (.if_icmp .ge 31, 3) := by decide +kernel
theorem dX13_holdsLines_42 : decode cX13_holdsLines 42 = .ok (.aload_n 0, 1) := by decide +kernel
theorem dX13_holdsLines_43 : decode cX13_holdsLines 43 = .ok (.getfield 160, 3) := by decide +kernel
theorem dX13_holdsLines_46 : decode cX13_holdsLines 46 = .ok (.bipush 60, 2) := by decide +kernel
theorem dX13_holdsLines_48 : decode cX13_holdsLines 48 = .ok (.iload_n 1, 1) := by decide +kernel
theorem dX13_holdsLines_49 : decode cX13_holdsLines 49 = .ok (.aload_n 0, 1) := by decide +kernel
theorem dX13_holdsLines_50 : decode cX13_holdsLines 50 = .ok (.getfield 870, 3) := by decide +kernel
theorem dX13_holdsLines_53 : decode cX13_holdsLines 53 = .ok (.isub, 1) := by decide +kernel
theorem dX13_holdsLines_54 : decode cX13_holdsLines 54 = .ok (.imul, 1) := by decide +kernel
theorem dX13_holdsLines_55 : decode cX13_holdsLines 55 = .ok (.iload_n 2, 1) := by decide +kernel
theorem dX13_holdsLines_56 : decode cX13_holdsLines 56 = .ok (.iadd, 1) := by decide +kernel
theorem dX13_holdsLines_57 : decode cX13_holdsLines 57 = .ok (.aload_n 0, 1) := by decide +kernel
theorem dX13_holdsLines_58 : decode cX13_holdsLines 58 = .ok (.iload_n 1, 1) := by decide +kernel
theorem dX13_holdsLines_59 : decode cX13_holdsLines 59 = .ok (.iload_n 2, 1) := by decide +kernel
theorem dX13_holdsLines_60 : decode cX13_holdsLines 60 = .ok (.invokevirtual 206, 3) := by decide +kernel
theorem dX13_holdsLines_63 : decode cX13_holdsLines 63 = .ok (.iastore, 1) := by decide +kernel
theorem dX13_holdsLines_64 : decode cX13_holdsLines 64 = .ok (.iinc 2 1, 3) := by decide +kernel
theorem dX13_holdsLines_67 : decode cX13_holdsLines 67 = .ok (.goto (-35), 3) := by decide +kernel
theorem dX13_holdsLines_70 : decode cX13_holdsLines 70 = .ok (.iinc 1 1, 3) := by decide +kernel
theorem dX13_holdsLines_73 : decode cX13_holdsLines 73 = .ok (.goto (-68), 3) := by decide +kernel
theorem dX13_holdsLines_76 : decode cX13_holdsLines 76 = .ok (.return_, 1) := by decide +kernel
theorem dX13_laysLine_0 : decode cX13_laysLine 0 = .ok (.aload_n 0, 1) := by decide +kernel
theorem dX13_laysLine_1 : decode cX13_laysLine 1 = .ok (.getfield 17, 3) := by decide +kernel
theorem dX13_laysLine_4 : decode cX13_laysLine 4 = .ok (.iload_n 1, 1) := by decide +kernel
theorem dX13_laysLine_5 : decode cX13_laysLine 5 = .ok (.aload_n 0, 1) := by decide +kernel
theorem dX13_laysLine_6 : decode cX13_laysLine 6 = .ok (.getfield 157, 3) := by decide +kernel
theorem dX13_laysLine_9 : decode cX13_laysLine 9 = .ok (.iload_n 2, 1) := by decide +kernel
theorem dX13_laysLine_10 : decode cX13_laysLine 10 = .ok (.iaload, 1) := by decide +kernel
theorem dX13_laysLine_11 : decode cX13_laysLine 11 = .ok (.iastore, 1) := by decide +kernel
theorem dX13_laysLine_12 : decode cX13_laysLine 12 = .ok (.iconst 0, 1) := by decide +kernel
theorem dX13_laysLine_13 : decode cX13_laysLine 13 = .ok (.istore_n 3, 1) := by decide +kernel
theorem dX13_laysLine_14 : decode cX13_laysLine 14 = .ok (.iload_n 3, 1) := by decide +kernel
theorem dX13_laysLine_15 : decode cX13_laysLine 15 = .ok (.aload_n 0, 1) := by decide +kernel
theorem dX13_laysLine_16 : decode cX13_laysLine 16 = .ok (.getfield 17, 3) := by decide +kernel
theorem dX13_laysLine_19 : decode cX13_laysLine 19 = .ok (.iload_n 1, 1) := by decide +kernel
theorem dX13_laysLine_20 : decode cX13_laysLine 20 = .ok (.iaload, 1) := by decide +kernel
theorem dX13_laysLine_21 : decode cX13_laysLine 21 = .ok (.if_icmp .ge 31, 3) := by decide +kernel
theorem dX13_laysLine_24 : decode cX13_laysLine 24 = .ok (.aload_n 0, 1) := by decide +kernel
theorem dX13_laysLine_25 : decode cX13_laysLine 25 = .ok (.getfield 20, 3) := by decide +kernel
theorem dX13_laysLine_28 : decode cX13_laysLine 28 = .ok (.bipush 60, 2) := by decide +kernel
theorem dX13_laysLine_30 : decode cX13_laysLine 30 = .ok (.iload_n 1, 1) := by decide +kernel
theorem dX13_laysLine_31 : decode cX13_laysLine 31 = .ok (.imul, 1) := by decide +kernel
theorem dX13_laysLine_32 : decode cX13_laysLine 32 = .ok (.iload_n 3, 1) := by decide +kernel
theorem dX13_laysLine_33 : decode cX13_laysLine 33 = .ok (.iadd, 1) := by decide +kernel
theorem dX13_laysLine_34 : decode cX13_laysLine 34 = .ok (.aload_n 0, 1) := by decide +kernel
theorem dX13_laysLine_35 : decode cX13_laysLine 35 = .ok (.getfield 160, 3) := by decide +kernel
theorem dX13_laysLine_38 : decode cX13_laysLine 38 = .ok (.bipush 60, 2) := by decide +kernel
theorem dX13_laysLine_40 : decode cX13_laysLine 40 = .ok (.iload_n 2, 1) := by decide +kernel
theorem dX13_laysLine_41 : decode cX13_laysLine 41 = .ok (.imul, 1) := by decide +kernel
theorem dX13_laysLine_42 : decode cX13_laysLine 42 = .ok (.iload_n 3, 1) := by decide +kernel
