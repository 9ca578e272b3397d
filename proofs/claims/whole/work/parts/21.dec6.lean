theorem dX8_perform_86 : decode cX8_perform 86 = .ok (.iload 5, 2) := by decide +kernel
theorem dX8_perform_88 : decode cX8_perform 88 = .ok (.iload_n 2, 1) := by decide +kernel
theorem dX8_perform_89 : decode cX8_perform 89 = .ok (.sipush (-4096), 3) := by decide +kernel
theorem dX8_perform_92 : decode cX8_perform 92 = .ok (.iand, 1) := by decide +kernel
theorem dX8_perform_93 : decode cX8_perform 93 = .ok (.invokevirtual 143, 3) := by decide +kernel
theorem dX8_perform_96 : decode cX8_perform 96 = .ok (.goto 378, 3) := by decide +kernel
theorem dX8_perform_99 : decode cX8_perform 99 = .ok (.iload_n 3, 1) := by decide +kernel
theorem dX8_perform_100 : decode cX8_perform 100 = .ok (.bipush 23, 2) := by decide +kernel
theorem dX8_perform_102 : decode cX8_perform 102 = .ok (.if_icmp .ne 21, 3) := by decide +kernel
theorem dX8_perform_105 : decode cX8_perform 105 = .ok (.aload_n 0, 1) := by decide +kernel
theorem dX8_perform_106 : decode cX8_perform 106 = .ok (.iload_n 1, 1) := by decide +kernel
theorem dX8_perform_107 : decode cX8_perform 107 = .ok (.iload 5, 2) := by decide +kernel
theorem dX8_perform_109 : decode cX8_perform 109 = .ok (.iload 8, 2) := by decide +kernel
theorem dX8_perform_111 : decode cX8_perform 111 = .ok (.iload_n 2, 1) := by decide +kernel
theorem dX8_perform_112 : decode cX8_perform 112 = .ok (.sipush (-4096), 3) := by decide +kernel
theorem dX8_perform_115 : decode cX8_perform 115 = .ok (.iand, 1) := by decide +kernel
theorem dX8_perform_116 : decode cX8_perform 116 = .ok (.iadd, 1) := by decide +kernel
theorem dX8_perform_117 : decode cX8_perform 117 = .ok (.invokevirtual 143, 3) := by decide +kernel
theorem dX8_perform_120 : decode cX8_perform 120 = .ok (.goto 354, 3) := by decide +kernel
theorem dX8_perform_123 : decode cX8_perform 123 = .ok (.iload_n 3, 1) := by decide +kernel
theorem dX8_perform_124 : decode cX8_perform 124 = .ok (.bipush 111, 2) := by decide +kernel
theorem dX8_perform_126 : decode cX8_perform 126 = .ok (.if_icmp .ne 53, 3) := by decide +kernel
theorem dX8_perform_129 : decode cX8_perform 129 = .ok (.aload_n 0, 1) := by decide +kernel
theorem dX8_perform_130 : decode cX8_perform 130 = .ok (.iload_n 1, 1) := by decide +kernel
theorem dX8_perform_131 : decode cX8_perform 131 = .ok (.iload 5, 2) := by decide +kernel
theorem dX8_perform_133 : decode cX8_perform 133 = .ok (.iload 9, 2) := by decide +kernel
theorem dX8_perform_135 : decode cX8_perform 135 = .ok (.invokevirtual 143, 3) := by decide +kernel
theorem dX8_perform_138 : decode cX8_perform 138 = .ok (.iload 8, 2) := by decide +kernel
theorem dX8_perform_140 : decode cX8_perform 140 = .ok (.iload_n 2, 1) := by decide +kernel
theorem dX8_perform_141 : decode cX8_perform 141 = .ok (.bipush 31, 2) := by decide +kernel
theorem dX8_perform_143 : decode cX8_perform 143 = .ok (.ishr, 1) := by decide +kernel
theorem dX8_perform_144 : decode cX8_perform 144 = .ok (.bipush 20, 2) := by decide +kernel
theorem dX8_perform_146 : decode cX8_perform 146 = .ok (.ishl, 1) := by decide +kernel
theorem dX8_perform_147 : decode cX8_perform 147 = .ok (.iload_n 2, 1) := by decide +kernel
theorem dX8_perform_148 : decode cX8_perform 148 = .ok (.ldc 147, 2) := by decide +kernel
theorem dX8_perform_150 : decode cX8_perform 150 = .ok (.iand, 1) := by decide +kernel
theorem dX8_perform_151 : decode cX8_perform 151 = .ok (.ior, 1) := by decide +kernel
theorem dX8_perform_152 : decode cX8_perform 152 = .ok (.iload_n 2, 1) := by decide +kernel
theorem dX8_perform_153 : decode cX8_perform 153 = .ok (.bipush 20, 2) := by decide +kernel
theorem dX8_perform_155 : decode cX8_perform 155 = .ok (.iushr, 1) := by decide +kernel
theorem dX8_perform_156 : decode cX8_perform 156 = .ok (.iconst 1, 1) := by decide +kernel
theorem dX8_perform_157 : decode cX8_perform 157 = .ok (.iand, 1) := by decide +kernel
theorem dX8_perform_158 : decode cX8_perform 158 = .ok (.bipush 11, 2) := by decide +kernel
theorem dX8_perform_160 : decode cX8_perform 160 = .ok (.ishl, 1) := by decide +kernel
theorem dX8_perform_161 : decode cX8_perform 161 = .ok (.ior, 1) := by decide +kernel
theorem dX8_perform_162 : decode cX8_perform 162 = .ok (.iload_n 2, 1) := by decide +kernel
theorem dX8_perform_163 : decode cX8_perform 163 = .ok (.bipush 21, 2) := by decide +kernel
theorem dX8_perform_165 : decode cX8_perform 165 = .ok (.iushr, 1) := by decide +kernel
theorem dX8_perform_166 : decode cX8_perform 166 = .ok (.sipush 1023, 3) := by decide +kernel
theorem dX8_perform_169 : decode cX8_perform 169 = .ok (.iand, 1) := by decide +kernel
theorem dX8_perform_170 : decode cX8_perform 170 = .ok (.iconst 1, 1) := by decide +kernel
theorem dX8_perform_171 : decode cX8_perform 171 = .ok (.ishl, 1) := by decide +kernel
theorem dX8_perform_172 : decode cX8_perform 172 = .ok (.ior, 1) := by decide +kernel
theorem dX8_perform_173 : decode cX8_perform 173 = .ok (.iadd, 1) := by decide +kernel
theorem dX8_perform_174 : decode cX8_perform 174 = .ok (.istore 9, 2) := by decide +kernel
theorem dX8_perform_176 : decode cX8_perform 176 = .ok (.goto 298, 3) := by decide +kernel
theorem dX8_perform_179 : decode cX8_perform 179 = .ok (.iload_n 3, 1) := by decide +kernel
theorem dX8_perform_180 : decode cX8_perform 180 = .ok (.bipush 103, 2) := by decide +kernel
theorem dX8_perform_182 : decode cX8_perform 182 = .ok (.if_icmp .ne 27, 3) := by decide +kernel
theorem dX8_perform_185 : decode cX8_perform 185 = .ok (.aload_n 0, 1) := by decide +kernel
theorem dX8_perform_186 : decode cX8_perform 186 = .ok (.iload_n 1, 1) := by decide +kernel
theorem dX8_perform_187 : decode cX8_perform 187 = .ok (.iload 5, 2) := by decide +kernel
theorem dX8_perform_189 : decode cX8_perform 189 = .ok (.iload 9, 2) := by decide +kernel
theorem dX8_perform_191 : decode cX8_perform 191 = .ok (.invokevirtual 143, 3) := by decide +kernel
theorem dX8_perform_194 : decode cX8_perform 194 = .ok (.iload 6, 2) := by decide +kernel
theorem dX8_perform_196 : decode cX8_perform 196 = .ok (.iload_n 2, 1) := by decide +kernel
theorem dX8_perform_197 : decode cX8_perform 197 = .ok (.bipush 20, 2) := by decide +kernel
theorem dX8_perform_199 : decode cX8_perform 199 = .ok (.ishr, 1) := by decide +kernel
theorem dX8_perform_200 : decode cX8_perform 200 = .ok (.iadd, 1) := by decide +kernel
theorem dX8_perform_201 : decode cX8_perform 201 = .ok (.bipush (-2), 2) := by decide +kernel
theorem dX8_perform_203 : decode cX8_perform 203 = .ok (.iand, 1) := by decide +kernel
theorem dX8_perform_204 : decode cX8_perform 204 = .ok (.istore 9, 2) := by decide +kernel
theorem dX8_perform_206 : decode cX8_perform 206 = .ok (.goto 268, 3) := by decide +kernel
theorem dX8_perform_209 : decode cX8_perform 209 = .ok (.iload_n 3, 1) := by decide +kernel
theorem dX8_perform_210 : decode cX8_perform 210 = .ok (.bipush 99, 2) := by decide +kernel
theorem dX8_perform_212 : decode cX8_perform 212 = .ok (.if_icmp .ne 61, 3) := by decide +kernel
theorem dX8_perform_215 : decode cX8_perform 215 = .ok (.aload_n 0, 1) := by decide +kernel
theorem dX8_perform_216 : decode cX8_perform 216 = .ok (.iload 4, 2) := by decide +kernel
theorem dX8_perform_218 : decode cX8_perform 218 = .ok (.iload 6, 2) := by decide +kernel
theorem dX8_perform_220 : decode cX8_perform 220 = .ok (.iload 7, 2) := by decide +kernel
theorem dX8_perform_222 : decode cX8_perform 222 = .ok (.invokevirtual 148, 3) := by decide +kernel
theorem dX8_perform_225 : decode cX8_perform 225 = .ok (.ifCond .eq 249, 3) := by decide +kernel
theorem dX8_perform_228 : decode cX8_perform 228 = .ok (.iload 8, 2) := by decide +kernel
theorem dX8_perform_230 : decode cX8_perform 230 = .ok (.iload_n 2, 1) := by decide +kernel
theorem dX8_perform_231 : decode cX8_perform 231 = .ok (.bipush 31, 2) := by decide +kernel
theorem dX8_perform_233 : decode cX8_perform 233 = .ok (.ishr, 1) := by decide +kernel
theorem dX8_perform_234 : decode cX8_perform 234 = .ok (.bipush 12, 2) := by decide +kernel
theorem dX8_perform_236 : decode cX8_perform 236 = .ok (.ishl, 1) := by decide +kernel
theorem dX8_perform_237 : decode cX8_perform 237 = .ok (.iload_n 2, 1) := by decide +kernel
theorem dX8_perform_238 : decode cX8_perform 238 = .ok (.bipush 7, 2) := by decide +kernel
theorem dX8_perform_240 : decode cX8_perform 240 = .ok (.iushr, 1) := by decide +kernel
theorem dX8_perform_241 : decode cX8_perform 241 = .ok (.iconst 1, 1) := by decide +kernel
theorem dX8_perform_242 : decode cX8_perform 242 = .ok (.iand, 1) := by decide +kernel
theorem dX8_perform_243 : decode cX8_perform 243 = .ok (.bipush 11, 2) := by decide +kernel
theorem dX8_perform_245 : decode cX8_perform 245 = .ok (.ishl, 1) := by decide +kernel
theorem dX8_perform_246 : decode cX8_perform 246 = .ok (.ior, 1) := by decide +kernel
theorem dX8_perform_247 : decode cX8_perform 247 = .ok (.iload_n 2, 1) := by decide +kernel
theorem dX8_perform_248 : decode cX8_perform 248 = .ok (.bipush 25, 2) := by decide +kernel
theorem dX8_perform_250 : decode cX8_perform 250 = .ok (.iushr, 1) := by decide +kernel
theorem dX8_perform_251 : decode cX8_perform 251 = .ok (.bipush 63, 2) := by decide +kernel
theorem dX8_perform_253 : decode cX8_perform 253 = .ok (.iand, 1) := by decide +kernel
theorem dX8_perform_254 : decode cX8_perform 254 = .ok (.iconst 5, 1) := by decide +kernel
theorem dX8_perform_255 : decode cX8_perform 255 = .ok (.ishl, 1) := by decide +kernel
theorem dX8_perform_256 : decode cX8_perform 256 = .ok (.ior, 1) := by decide +kernel
theorem dX8_perform_257 : decode cX8_perform 257 = .ok (.iload_n 2, 1) := by decide +kernel
theorem dX8_perform_258 : decode cX8_perform 258 = .ok (.bipush 8, 2) := by decide +kernel
theorem dX8_perform_260 : decode cX8_perform 260 = .ok (.iushr, 1) := by decide +kernel
theorem dX8_perform_261 : decode cX8_perform 261 = .ok (.bipush 15, 2) := by decide +kernel
theorem dX8_perform_263 : decode cX8_perform 263 = .ok (.iand, 1) := by decide +kernel
theorem dX8_perform_264 : decode cX8_perform 264 = .ok (.iconst 1, 1) := by decide +kernel
theorem dX8_perform_265 : decode cX8_perform 265 = .ok (.ishl, 1) := by decide +kernel
theorem dX8_perform_266 : decode cX8_perform 266 = .ok (.ior, 1) := by decide +kernel
theorem dX8_perform_267 : decode cX8_perform 267 = .ok (.iadd, 1) := by decide +kernel
theorem dX8_perform_268 : decode cX8_perform 268 = .ok (.istore 9, 2) := by decide +kernel
theorem dX8_perform_270 : decode cX8_perform 270 = .ok (.goto 204, 3) := by decide +kernel
theorem dX8_perform_273 : decode cX8_perform 273 = .ok (.iload_n 3, 1) := by decide +kernel
theorem dX8_perform_274 : decode cX8_perform 274 = .ok (.iconst 3, 1) := by decide +kernel
theorem dX8_perform_275 : decode cX8_perform 275 = .ok (.if_icmp .ne 22, 3) := by decide +kernel
theorem dX8_perform_278 : decode cX8_perform 278 = .ok (.aload_n 0, 1) := by decide +kernel
theorem dX8_perform_279 : decode cX8_perform 279 = .ok (.iload_n 1, 1) := by decide +kernel
theorem dX8_perform_280 : decode cX8_perform 280 = .ok (.iload 6, 2) := by decide +kernel
theorem dX8_perform_282 : decode cX8_perform 282 = .ok (.iload_n 2, 1) := by decide +kernel
theorem dX8_perform_283 : decode cX8_perform 283 = .ok (.bipush 20, 2) := by decide +kernel
theorem dX8_perform_285 : decode cX8_perform 285 = .ok (.ishr, 1) := by decide +kernel
theorem dX8_perform_286 : decode cX8_perform 286 = .ok (.iadd, 1) := by decide +kernel
theorem dX8_perform_287 : decode cX8_perform 287 = .ok (.iload 5, 2) := by decide +kernel
theorem dX8_perform_289 : decode cX8_perform 289 = .ok (.invokevirtual 152, 3) := by decide +kernel
theorem dX8_perform_292 : decode cX8_perform 292 = .ok (.istore 10, 2) := by decide +kernel
theorem dX8_perform_294 : decode cX8_perform 294 = .ok (.goto 180, 3) := by decide +kernel
theorem dX8_perform_297 : decode cX8_perform 297 = .ok (.iload_n 3, 1) := by decide +kernel
theorem dX8_perform_298 : decode cX8_perform 298 = .ok (.bipush 35, 2) := by decide +kernel
theorem dX8_perform_300 : decode cX8_perform 300 = .ok (.if_icmp .ne 27, 3) := by decide +kernel
theorem dX8_perform_303 : decode cX8_perform 303 = .ok (.aload_n 0, 1) := by decide +kernel
theorem dX8_perform_304 : decode cX8_perform 304 = .ok (.iload_n 1, 1) := by decide +kernel
theorem dX8_perform_305 : decode cX8_perform 305 = .ok (.iload 6, 2) := by decide +kernel
theorem dX8_perform_307 : decode cX8_perform 307 = .ok (.iload_n 2, 1) := by decide +kernel
theorem dX8_perform_308 : decode cX8_perform 308 = .ok (.bipush 25, 2) := by decide +kernel
theorem dX8_perform_310 : decode cX8_perform 310 = .ok (.ishr, 1) := by decide +kernel
theorem dX8_perform_311 : decode cX8_perform 311 = .ok (.iconst 5, 1) := by decide +kernel
theorem dX8_perform_312 : decode cX8_perform 312 = .ok (.ishl, 1) := by decide +kernel
theorem dX8_perform_313 : decode cX8_perform 313 = .ok (.iload 5, 2) := by decide +kernel
theorem dX8_perform_315 : decode cX8_perform 315 = .ok (.ior, 1) := by decide +kernel
theorem dX8_perform_316 : decode cX8_perform 316 = .ok (.iadd, 1) := by decide +kernel
theorem dX8_perform_317 : decode cX8_perform 317 = .ok (.iload 7, 2) := by decide +kernel
theorem dX8_perform_319 : decode cX8_perform 319 = .ok (.invokevirtual 156, 3) := by decide +kernel
theorem dX8_perform_322 : decode cX8_perform 322 = .ok (.istore 10, 2) := by decide +kernel
theorem dX8_perform_324 : decode cX8_perform 324 = .ok (.goto 150, 3) := by decide +kernel
theorem dX8_perform_327 : decode cX8_perform 327 = .ok (.iload_n 3, 1) := by decide +kernel
theorem dX8_perform_328 : decode cX8_perform 328 = .ok (.bipush 19, 2) := by decide +kernel
theorem dX8_perform_330 : decode cX8_perform 330 = .ok (.if_icmp .ne 67, 3) := by decide +kernel
theorem dX8_perform_333 : decode cX8_perform 333 = .ok (.aload_n 0, 1) := by decide +kernel
theorem dX8_perform_334 : decode cX8_perform 334 = .ok (.iload_n 1, 1) := by decide +kernel
theorem dX8_perform_335 : decode cX8_perform 335 = .ok (.iload 5, 2) := by decide +kernel
theorem dX8_perform_337 : decode cX8_perform 337 = .ok (.aload_n 0, 1) := by decide +kernel
theorem dX8_perform_338 : decode cX8_perform 338 = .ok (.iload 4, 2) := by decide +kernel
theorem dX8_perform_340 : decode cX8_perform 340 = .ok (.iload 6, 2) := by decide +kernel
theorem dX8_perform_342 : decode cX8_perform 342 = .ok (.iload 4, 2) := by decide +kernel
theorem dX8_perform_344 : decode cX8_perform 344 = .ok (.iconst 1, 1) := by decide +kernel
theorem dX8_perform_345 : decode cX8_perform 345 = .ok (.if_icmp .eq 9, 3) := by decide +kernel
theorem dX8_perform_348 : decode cX8_perform 348 = .ok (.iload 4, 2) := by decide +kernel
theorem dX8_perform_350 : decode cX8_perform 350 = .ok (.iconst 5, 1) := by decide +kernel
theorem dX8_perform_351 : decode cX8_perform 351 = .ok (.if_icmp .ne 13, 3) := by decide +kernel
theorem dX8_perform_354 : decode cX8_perform 354 = .ok (.iload_n 2, 1) := by decide +kernel
theorem dX8_perform_355 : decode cX8_perform 355 = .ok (.bipush 20, 2) := by decide +kernel
theorem dX8_perform_357 : decode cX8_perform 357 = .ok (.iushr, 1) := by decide +kernel
theorem dX8_perform_358 : decode cX8_perform 358 = .ok (.bipush 31, 2) := by decide +kernel
theorem dX8_perform_360 : decode cX8_perform 360 = .ok (.iand, 1) := by decide +kernel
theorem dX8_perform_361 : decode cX8_perform 361 = .ok (.goto 7, 3) := by decide +kernel
theorem dX8_perform_364 : decode cX8_perform 364 = .ok (.iload_n 2, 1) := by decide +kernel
theorem dX8_perform_365 : decode cX8_perform 365 = .ok (.bipush 20, 2) := by decide +kernel
theorem dX8_perform_367 : decode cX8_perform 367 = .ok (.ishr, 1) := by decide +kernel
theorem dX8_perform_368 : decode cX8_perform 368 = .ok (.iload 4, 2) := by decide +kernel
theorem dX8_perform_370 : decode cX8_perform 370 = .ok (.iconst 5, 1) := by decide +kernel
theorem dX8_perform_371 : decode cX8_perform 371 = .ok (.if_icmp .ne 16, 3) := by decide +kernel
theorem dX8_perform_374 : decode cX8_perform 374 = .ok (.iload_n 2, 1) := by decide +kernel
theorem dX8_perform_375 : decode cX8_perform 375 = .ok (.bipush 25, 2) := by decide +kernel
theorem dX8_perform_377 : decode cX8_perform 377 = .ok (.iushr, 1) := by decide +kernel
theorem dX8_perform_378 : decode cX8_perform 378 = .ok (.bipush 32, 2) := by decide +kernel
theorem dX8_perform_380 : decode cX8_perform 380 = .ok (.if_icmp .ne 7, 3) := by decide +kernel
theorem dX8_perform_383 : decode cX8_perform 383 = .ok (.iconst 1, 1) := by decide +kernel
theorem dX8_perform_384 : decode cX8_perform 384 = .ok (.goto 4, 3) := by decide +kernel
theorem dX8_perform_387 : decode cX8_perform 387 = .ok (.iconst 0, 1) := by decide +kernel
theorem dX8_perform_388 : decode cX8_perform 388 = .ok (.invokevirtual 159, 3) := by decide +kernel
theorem dX8_perform_391 : decode cX8_perform 391 = .ok (.invokevirtual 143, 3) := by decide +kernel
theorem dX8_perform_394 : decode cX8_perform 394 = .ok (.goto 80, 3) := by decide +kernel
theorem dX8_perform_397 : decode cX8_perform 397 = .ok (.iload_n 3, 1) := by decide +kernel
theorem dX8_perform_398 : decode cX8_perform 398 = .ok (.bipush 51, 2) := by decide +kernel
theorem dX8_perform_400 : decode cX8_perform 400 = .ok (.if_icmp .ne 57, 3) := by decide +kernel
theorem dX8_perform_403 : decode cX8_perform 403 = .ok (.aload_n 0, 1) := by decide +kernel
theorem dX8_perform_404 : decode cX8_perform 404 = .ok (.iload_n 1, 1) := by decide +kernel
theorem dX8_perform_405 : decode cX8_perform 405 = .ok (.iload 5, 2) := by decide +kernel
theorem dX8_perform_407 : decode cX8_perform 407 = .ok (.aload_n 0, 1) := by decide +kernel
theorem dX8_perform_408 : decode cX8_perform 408 = .ok (.iload 4, 2) := by decide +kernel
theorem dX8_perform_410 : decode cX8_perform 410 = .ok (.iload 6, 2) := by decide +kernel
theorem dX8_perform_412 : decode cX8_perform 412 = .ok (.iload 4, 2) := by decide +kernel
theorem dX8_perform_414 : decode cX8_perform 414 = .ok (.iconst 1, 1) := by decide +kernel
theorem dX8_perform_415 : decode cX8_perform 415 = .ok (.if_icmp .eq 9, 3) := by decide +kernel
theorem dX8_perform_418 : decode cX8_perform 418 = .ok (.iload 4, 2) := by decide +kernel
theorem dX8_perform_420 : decode cX8_perform 420 = .ok (.iconst 5, 1) := by decide +kernel
theorem dX8_perform_421 : decode cX8_perform 421 = .ok (.if_icmp .ne 11, 3) := by decide +kernel
theorem dX8_perform_424 : decode cX8_perform 424 = .ok (.iload 7, 2) := by decide +kernel
theorem dX8_perform_426 : decode cX8_perform 426 = .ok (.bipush 31, 2) := by decide +kernel
theorem dX8_perform_428 : decode cX8_perform 428 = .ok (.iand, 1) := by decide +kernel
theorem dX8_perform_429 : decode cX8_perform 429 = .ok (.goto 5, 3) := by decide +kernel
theorem dX8_perform_432 : decode cX8_perform 432 = .ok (.iload 7, 2) := by decide +kernel
theorem dX8_perform_434 : decode cX8_perform 434 = .ok (.iload_n 2, 1) := by decide +kernel
theorem dX8_perform_435 : decode cX8_perform 435 = .ok (.bipush 25, 2) := by decide +kernel
theorem dX8_perform_437 : decode cX8_perform 437 = .ok (.iushr, 1) := by decide +kernel
theorem dX8_perform_438 : decode cX8_perform 438 = .ok (.bipush 32, 2) := by decide +kernel
theorem dX8_perform_440 : decode cX8_perform 440 = .ok (.if_icmp .ne 7, 3) := by decide +kernel
theorem dX8_perform_443 : decode cX8_perform 443 = .ok (.iconst 1, 1) := by decide +kernel
theorem dX8_perform_444 : decode cX8_perform 444 = .ok (.goto 4, 3) := by decide +kernel
theorem dX8_perform_447 : decode cX8_perform 447 = .ok (.iconst 0, 1) := by decide +kernel
theorem dX8_perform_448 : decode cX8_perform 448 = .ok (.invokevirtual 159, 3) := by decide +kernel
theorem dX8_perform_451 : decode cX8_perform 451 = .ok (.invokevirtual 143, 3) := by decide +kernel
theorem dX8_perform_454 : decode cX8_perform 454 = .ok (.goto 20, 3) := by decide +kernel
theorem dX8_perform_457 : decode cX8_perform 457 = .ok (.iload_n 2, 1) := by decide +kernel
theorem dX8_perform_458 : decode cX8_perform 458 = .ok (.bipush 115, 2) := by decide +kernel
theorem dX8_perform_460 : decode cX8_perform 460 = .ok (.if_icmp .ne 11, 3) := by decide +kernel
theorem dX8_perform_463 : decode cX8_perform 463 = .ok (.aload_n 0, 1) := by decide +kernel
theorem dX8_perform_464 : decode cX8_perform 464 = .ok (.iload_n 1, 1) := by decide +kernel
theorem dX8_perform_465 : decode cX8_perform 465 = .ok (.invokevirtual 163, 3) := by decide +kernel
theorem dX8_perform_468 : decode cX8_perform 468 = .ok (.goto 4, 3) := by decide +kernel
theorem dX8_perform_471 : decode cX8_perform 471 = .ok (.iconst 4, 1) := by decide +kernel
theorem dX8_perform_472 : decode cX8_perform 472 = .ok (.istore 10, 2) := by decide +kernel
theorem dX8_perform_474 : decode cX8_perform 474 = .ok (.iload 10, 2) := by decide +kernel
theorem dX8_perform_476 : decode cX8_perform 476 = .ok (.ifCond .ne 11, 3) := by decide +kernel
theorem dX8_perform_479 : decode cX8_perform 479 = .ok (.aload_n 0, 1) := by decide +kernel
theorem dX8_perform_480 : decode cX8_perform 480 = .ok (.getfield 28, 3) := by decide +kernel
theorem dX8_perform_483 : decode cX8_perform 483 = .ok (.iload_n 1, 1) := by decide +kernel
theorem dX8_perform_484 : decode cX8_perform 484 = .ok (.iload 9, 2) := by decide +kernel
theorem dX8_perform_486 : decode cX8_perform 486 = .ok (.iastore, 1) := by decide +kernel
theorem dX8_perform_487 : decode cX8_perform 487 = .ok (.iload 10, 2) := by decide +kernel
theorem dX8_perform_489 : decode cX8_perform 489 = .ok (.ireturn, 1) := by decide +kernel
theorem dX8_step_0 : decode cX8_step 0 = .ok (.aload_n 0, 1) := by decide +kernel
theorem dX8_step_1 : decode cX8_step 1 = .ok (.getfield 40, 3) := by decide +kernel
theorem dX8_step_4 : decode cX8_step 4 = .ok (.iload_n 1, 1) := by decide +kernel
theorem dX8_step_5 : decode cX8_step 5 = .ok (.dup2, 1) := by decide +kernel
theorem dX8_step_6 : decode cX8_step 6 = .ok (.iaload, 1) := by decide +kernel
theorem dX8_step_7 : decode cX8_step 7 = .ok (.iconst 1, 1) := by decide +kernel
theorem dX8_step_8 : decode cX8_step 8 = .ok (.iadd, 1) := by decide +kernel
theorem dX8_step_9 : decode cX8_step 9 = .ok (.iastore, 1) := by decide +kernel
theorem dX8_step_10 : decode cX8_step 10 = .ok (.iconst 0, 1) := by decide +kernel
theorem dX8_step_11 : decode cX8_step 11 = .ok (.istore_n 2, 1) := by decide +kernel
theorem dX8_step_12 : decode cX8_step 12 = .ok (.aload_n 0, 1) := by decide +kernel
theorem dX8_step_13 : decode cX8_step 13 = .ok (.getfield 28, 3) := by decide +kernel
theorem dX8_step_16 : decode cX8_step 16 = .ok (.iload_n 1, 1) := by decide +kernel
theorem dX8_step_17 : decode cX8_step 17 = .ok (.iaload, 1) := by decide +kernel
theorem dX8_step_18 : decode cX8_step 18 = .ok (.iconst 3, 1) := by decide +kernel
theorem dX8_step_19 : decode cX8_step 19 = .ok (.iand, 1) := by decide +kernel
theorem dX8_step_20 : decode cX8_step 20 = .ok (.ifCond .eq 8, 3) := by decide +kernel
theorem dX8_step_23 : decode cX8_step 23 = .ok (.iconst 2, 1) := by decide +kernel
theorem dX8_step_24 : decode cX8_step 24 = .ok (.istore_n 2, 1) := by decide +kernel
theorem dX8_step_25 : decode cX8_step 25 = .ok (.goto 62, 3) := by decide +kernel
theorem dX8_step_28 : decode cX8_step 28 = .ok (.aload_n 0, 1) := by decide +kernel
theorem dX8_step_29 : decode cX8_step 29 = .ok (.iload_n 1, 1) := by decide +kernel
theorem dX8_step_30 : decode cX8_step 30 = .ok (.aload_n 0, 1) := by decide +kernel
theorem dX8_step_31 : decode cX8_step 31 = .ok (.getfield 28, 3) := by decide +kernel
theorem dX8_step_34 : decode cX8_step 34 = .ok (.iload_n 1, 1) := by decide +kernel
theorem dX8_step_35 : decode cX8_step 35 = .ok (.iaload, 1) := by decide +kernel
theorem dX8_step_36 : decode cX8_step 36 = .ok (.invokevirtual 140, 3) := by decide +kernel
theorem dX8_step_39 : decode cX8_step 39 = .ok (.ifCond .ne 8, 3) := by decide +kernel
theorem dX8_step_42 : decode cX8_step 42 = .ok (.iconst 3, 1) := by decide +kernel
theorem dX8_step_43 : decode cX8_step 43 = .ok (.istore_n 2, 1) := by decide +kernel
theorem dX8_step_44 : decode cX8_step 44 = .ok (.goto 43, 3) := by decide +kernel
theorem dX8_step_47 : decode cX8_step 47 = .ok (.aload_n 0, 1) := by decide +kernel
theorem dX8_step_48 : decode cX8_step 48 = .ok (.getfield 7, 3) := by decide +kernel
theorem dX8_step_51 : decode cX8_step 51 = .ok (.aload_n 0, 1) := by decide +kernel
theorem dX8_step_52 : decode cX8_step 52 = .ok (.getfield 19, 3) := by decide +kernel
theorem dX8_step_55 : decode cX8_step 55 = .ok (.iload_n 1, 1) := by decide +kernel
theorem dX8_step_56 : decode cX8_step 56 = .ok (.iaload, 1) := by decide +kernel
theorem dX8_step_57 : decode cX8_step 57 = .ok (.aload_n 0, 1) := by decide +kernel
theorem dX8_step_58 : decode cX8_step 58 = .ok (.getfield 28, 3) := by decide +kernel
theorem dX8_step_61 : decode cX8_step 61 = .ok (.iload_n 1, 1) := by decide +kernel
theorem dX8_step_62 : decode cX8_step 62 = .ok (.iaload, 1) := by decide +kernel
theorem dX8_step_63 : decode cX8_step 63 = .ok (.iconst 4, 1) := by decide +kernel
theorem dX8_step_64 : decode cX8_step 64 = .ok (.idiv, 1) := by decide +kernel
theorem dX8_step_65 : decode cX8_step 65 = .ok (.iadd, 1) := by decide +kernel
theorem dX8_step_66 : decode cX8_step 66 = .ok (.iaload, 1) := by decide +kernel
theorem dX8_step_67 : decode cX8_step 67 = .ok (.istore_n 3, 1) := by decide +kernel
theorem dX8_step_68 : decode cX8_step 68 = .ok (.aload_n 0, 1) := by decide +kernel
theorem dX8_step_69 : decode cX8_step 69 = .ok (.iload_n 3, 1) := by decide +kernel
theorem dX8_step_70 : decode cX8_step 70 = .ok (.invokevirtual 166, 3) := by decide +kernel
theorem dX8_step_73 : decode cX8_step 73 = .ok (.ifCond .eq 12, 3) := by decide +kernel
theorem dX8_step_76 : decode cX8_step 76 = .ok (.aload_n 0, 1) := by decide +kernel
theorem dX8_step_77 : decode cX8_step 77 = .ok (.iload_n 1, 1) := by decide +kernel
theorem dX8_step_78 : decode cX8_step 78 = .ok (.iload_n 3, 1) := by decide +kernel
theorem dX8_step_79 : decode cX8_step 79 = .ok (.invokevirtual 170, 3) := by decide +kernel
theorem dX8_step_82 : decode cX8_step 82 = .ok (.goto 4, 3) := by decide +kernel
theorem dX8_step_85 : decode cX8_step 85 = .ok (.iconst 1, 1) := by decide +kernel
theorem dX8_step_86 : decode cX8_step 86 = .ok (.istore_n 2, 1) := by decide +kernel
theorem dX8_step_87 : decode cX8_step 87 = .ok (.iload_n 2, 1) := by decide +kernel
theorem dX8_step_88 : decode cX8_step 88 = .ok (.ifCond .eq 9, 3) := by decide +kernel
theorem dX8_step_91 : decode cX8_step 91 = .ok (.aload_n 0, 1) := by decide +kernel
theorem dX8_step_92 : decode cX8_step 92 = .ok (.iload_n 1, 1) := by decide +kernel
theorem dX8_step_93 : decode cX8_step 93 = .ok (.iload_n 2, 1) := by decide +kernel
theorem dX8_step_94 : decode cX8_step 94 = .ok (.invokevirtual 173, 3) := by decide +kernel
theorem dX8_step_97 : decode cX8_step 97 = .ok (.return_, 1) := by decide +kernel
theorem dX8_run_0 : decode cX8_run 0 = .ok (.aload_n 0, 1) := by decide +kernel
theorem dX8_run_1 : decode cX8_run 1 = .ok (.iload_n 1, 1) := by decide +kernel
theorem dX8_run_2 : decode cX8_run 2 = .ok (.iconst 1, 1) := by decide +kernel
theorem dX8_run_3 : decode cX8_run 3 = .ok (.if_icmp .lt 10, 3) := by decide +kernel
theorem dX8_run_6 : decode cX8_run 6 = .ok (.iload_n 1, 1) := by decide +kernel
theorem dX8_run_7 : decode cX8_run 7 = .ok (.sipush 400, 3) := by decide +kernel
theorem dX8_run_10 : decode cX8_run 10 = .ok (.if_icmp .le 7, 3) := by decide +kernel
theorem dX8_run_13 : decode cX8_run 13 = .ok (.iconst 1, 1) := by decide +kernel
theorem dX8_run_14 : decode cX8_run 14 = .ok (.goto 15, 3) := by decide +kernel
theorem dX8_run_17 : decode cX8_run 17 = .ok (.aload_n 0, 1) := by decide +kernel
theorem dX8_run_18 : decode cX8_run 18 = .ok (.getfield 88, 3) := by decide +kernel
theorem dX8_run_21 : decode cX8_run 21 = .ok (.ifCond .ne 7, 3) := by decide +kernel
theorem dX8_run_24 : decode cX8_run 24 = .ok (.iconst 2, 1) := by decide +kernel
theorem dX8_run_25 : decode cX8_run 25 = .ok (.goto 4, 3) := by decide +kernel
theorem dX8_run_28 : decode cX8_run 28 = .ok (.iconst 0, 1) := by decide +kernel
theorem dX8_run_29 : decode cX8_run 29 = .ok (.putfield 84, 3) := by decide +kernel
theorem dX8_run_32 : decode cX8_run 32 = .ok (.iconst 0, 1) := by decide +kernel
theorem dX8_run_33 : decode cX8_run 33 = .ok (.istore_n 2, 1) := by decide +kernel
theorem dX8_run_34 : decode cX8_run 34 = .ok (.iconst 0, 1) := by decide +kernel
theorem dX8_run_35 : decode cX8_run 35 = .ok (.istore_n 3, 1) := by decide +kernel
theorem dX8_run_36 : decode cX8_run 36 = .ok (.iload_n 3, 1) := by decide +kernel
theorem dX8_run_37 : decode cX8_run 37 = .ok (.iload_n 1, 1) := by decide +kernel
theorem dX8_run_38 : decode cX8_run 38 = .ok (.if_icmp .ge 123, 3) := by decide +kernel
theorem dX8_run_41 : decode cX8_run 41 = .ok (.aload_n 0, 1) := by decide +kernel
theorem dX8_run_42 : decode cX8_run 42 = .ok (.getfield 84, 3) := by decide +kernel
theorem dX8_run_45 : decode cX8_run 45 = .ok (.ifCond .ne 116, 3) := by decide +kernel
theorem dX8_run_48 : decode cX8_run 48 = .ok (.aload_n 0, 1) := by decide +kernel
theorem dX8_run_49 : decode cX8_run 49 = .ok (.dup, 1) := by decide +kernel
theorem dX8_run_50 : decode cX8_run 50 = .ok (.getfield 109, 3) := by decide +kernel
theorem dX8_run_53 : decode cX8_run 53 = .ok (.iconst 1, 1) := by decide +kernel
theorem dX8_run_54 : decode cX8_run 54 = .ok (.iadd, 1) := by decide +kernel
theorem dX8_run_55 : decode cX8_run 55 = .ok (.putfield 109, 3) := by decide +kernel
theorem dX8_run_58 : decode cX8_run 58 = .ok (.aload_n 0, 1) := by decide +kernel
theorem dX8_run_59 : decode cX8_run 59 = .ok (.getfield 53, 3) := by decide +kernel
theorem dX8_run_62 : decode cX8_run 62 = .ok (.aload_n 0, 1) := by decide +kernel
theorem dX8_run_63 : decode cX8_run 63 = .ok (.getfield 112, 3) := by decide +kernel
theorem dX8_run_66 : decode cX8_run 66 = .ok (.iaload, 1) := by decide +kernel
theorem dX8_run_67 : decode cX8_run 67 = .ok (.istore 4, 2) := by decide +kernel
theorem dX8_run_69 : decode cX8_run 69 = .ok (.aload_n 0, 1) := by decide +kernel
theorem dX8_run_70 : decode cX8_run 70 = .ok (.getfield 46, 3) := by decide +kernel
theorem dX8_run_73 : decode cX8_run 73 = .ok (.iload 4, 2) := by decide +kernel
theorem dX8_run_75 : decode cX8_run 75 = .ok (.baload, 1) := by decide +kernel
theorem dX8_run_76 : decode cX8_run 76 = .ok (.ifCond .eq 19, 3) := by decide +kernel
theorem dX8_run_79 : decode cX8_run 79 = .ok (.aload_n 0, 1) := by decide +kernel
theorem dX8_run_80 : decode cX8_run 80 = .ok (.getfield 118, 3) := by decide +kernel
theorem dX8_run_83 : decode cX8_run 83 = .ok (.ifCond .ne 12, 3) := by decide +kernel
theorem dX8_run_86 : decode cX8_run 86 = .ok (.aload_n 0, 1) := by decide +kernel
theorem dX8_run_87 : decode cX8_run 87 = .ok (.iload 4, 2) := by decide +kernel
theorem dX8_run_89 : decode cX8_run 89 = .ok (.invokevirtual 177, 3) := by decide +kernel
theorem dX8_run_92 : decode cX8_run 92 = .ok (.iinc 2 1, 3) := by decide +kernel
theorem dX8_run_95 : decode cX8_run 95 = .ok (.aload_n 0, 1) := by decide +kernel
theorem dX8_run_96 : decode cX8_run 96 = .ok (.dup, 1) := by decide +kernel
theorem dX8_run_97 : decode cX8_run 97 = .ok (.getfield 115, 3) := by decide +kernel
theorem dX8_run_100 : decode cX8_run 100 = .ok (.iconst 1, 1) := by decide +kernel
theorem dX8_run_101 : decode cX8_run 101 = .ok (.isub, 1) := by decide +kernel
theorem dX8_run_102 : decode cX8_run 102 = .ok (.putfield 115, 3) := by decide +kernel
theorem dX8_run_105 : decode cX8_run 105 = .ok (.aload_n 0, 1) := by decide +kernel
theorem dX8_run_106 : decode cX8_run 106 = .ok (.getfield 115, 3) := by decide +kernel
theorem dX8_run_109 : decode cX8_run 109 = .ok (.ifCond .ne 46, 3) := by decide +kernel
theorem dX8_run_112 : decode cX8_run 112 = .ok (.aload_n 0, 1) := by decide +kernel
theorem dX8_run_113 : decode cX8_run 113 = .ok (.aload_n 0, 1) := by decide +kernel
theorem dX8_run_114 : decode cX8_run 114 = .ok (.getfield 112, 3) := by decide +kernel
theorem dX8_run_117 : decode cX8_run 117 = .ok (.iconst 1, 1) := by decide +kernel
theorem dX8_run_118 : decode cX8_run 118 = .ok (.iadd, 1) := by decide +kernel
theorem dX8_run_119 : decode cX8_run 119 = .ok (.aload_n 0, 1) := by decide +kernel
theorem dX8_run_120 : decode cX8_run 120 = .ok (.getfield 100, 3) := by decide +kernel
theorem dX8_run_123 : decode cX8_run 123 = .ok (.irem, 1) := by decide +kernel
theorem dX8_run_124 : decode cX8_run 124 = .ok (.putfield 112, 3) := by decide +kernel
theorem dX8_run_127 : decode cX8_run 127 = .ok (.aload_n 0, 1) := by decide +kernel
theorem dX8_run_128 : decode cX8_run 128 = .ok (.aload_n 0, 1) := by decide +kernel
theorem dX8_run_129 : decode cX8_run 129 = .ok (.getfield 56, 3) := by decide +kernel
theorem dX8_run_132 : decode cX8_run 132 = .ok (.aload_n 0, 1) := by decide +kernel
theorem dX8_run_133 : decode cX8_run 133 = .ok (.getfield 112, 3) := by decide +kernel
theorem dX8_run_136 : decode cX8_run 136 = .ok (.iaload, 1) := by decide +kernel
theorem dX8_run_137 : decode cX8_run 137 = .ok (.putfield 115, 3) := by decide +kernel
theorem dX8_run_140 : decode cX8_run 140 = .ok (.aload_n 0, 1) := by decide +kernel
theorem dX8_run_141 : decode cX8_run 141 = .ok (.iconst 0, 1) := by decide +kernel
theorem dX8_run_142 : decode cX8_run 142 = .ok (.putfield 118, 3) := by decide +kernel
theorem dX8_run_145 : decode cX8_run 145 = .ok (.aload_n 0, 1) := by decide +kernel
theorem dX8_run_146 : decode cX8_run 146 = .ok (.dup, 1) := by decide +kernel
theorem dX8_run_147 : decode cX8_run 147 = .ok (.getfield 121, 3) := by decide +kernel
theorem dX8_run_150 : decode cX8_run 150 = .ok (.iconst 1, 1) := by decide +kernel
theorem dX8_run_151 : decode cX8_run 151 = .ok (.iadd, 1) := by decide +kernel
theorem dX8_run_152 : decode cX8_run 152 = .ok (.putfield 121, 3) := by decide +kernel
theorem dX8_run_155 : decode cX8_run 155 = .ok (.iinc 3 1, 3) := by decide +kernel
theorem dX8_run_158 : decode cX8_run 158 = .ok (.goto (-122), 3) := by decide +kernel
theorem dX8_run_161 : decode cX8_run 161 = .ok (.iload_n 2, 1) := by decide +kernel
theorem dX8_run_162 : decode cX8_run 162 = .ok (.ireturn, 1) := by decide +kernel
theorem dX8_quote_0 : decode cX8_quote 0 = .ok (.aload_n 0, 1) := by decide +kernel
theorem dX8_quote_1 : decode cX8_quote 1 = .ok (.aload_n 0, 1) := by decide +kernel
theorem dX8_quote_2 : decode cX8_quote 2 = .ok (.getfield 88, 3) := by decide +kernel
theorem dX8_quote_5 : decode cX8_quote 5 = .ok (.ifCond .eq 7, 3) := by decide +kernel
theorem dX8_quote_8 : decode cX8_quote 8 = .ok (.iconst 0, 1) := by decide +kernel
theorem dX8_quote_9 : decode cX8_quote 9 = .ok (.goto 4, 3) := by decide +kernel
theorem dX8_quote_12 : decode cX8_quote 12 = .ok (.iconst 1, 1) := by decide +kernel
theorem dX8_quote_13 : decode cX8_quote 13 = .ok (.putfield 84, 3) := by decide +kernel
theorem dX8_quote_16 : decode cX8_quote 16 = .ok (.aload_n 0, 1) := by decide +kernel
theorem dX8_quote_17 : decode cX8_quote 17 = .ok (.getfield 84, 3) := by decide +kernel
theorem dX8_quote_20 : decode cX8_quote 20 = .ok (.ifCond .ne 23, 3) := by decide +kernel
theorem dX8_quote_23 : decode cX8_quote 23 = .ok (.aload_n 0, 1) := by decide +kernel
theorem dX8_quote_24 : decode cX8_quote 24 = .ok (.aload_n 0, 1) := by decide +kernel
theorem dX8_quote_25 : decode cX8_quote 25 = .ok (.aload_n 0, 1) := by decide +kernel
theorem dX8_quote_26 : decode cX8_quote 26 = .ok (.getfield 80, 3) := by decide +kernel
theorem dX8_quote_29 : decode cX8_quote 29 = .ok (.iload_n 1, 1) := by decide +kernel
theorem dX8_quote_30 : decode cX8_quote 30 = .ok (.invokevirtual 128, 3) := by decide +kernel
theorem dX8_quote_33 : decode cX8_quote 33 = .ok (.aload_n 0, 1) := by decide +kernel
theorem dX8_quote_34 : decode cX8_quote 34 = .ok (.getfield 106, 3) := by decide +kernel
theorem dX8_quote_37 : decode cX8_quote 37 = .ok (.invokevirtual 128, 3) := by decide +kernel
theorem dX8_quote_40 : decode cX8_quote 40 = .ok (.goto 4, 3) := by decide +kernel
theorem dX8_quote_43 : decode cX8_quote 43 = .ok (.iconst 0, 1) := by decide +kernel
theorem dX8_quote_44 : decode cX8_quote 44 = .ok (.ireturn, 1) := by decide +kernel
theorem dX8_register_0 : decode cX8_register 0 = .ok (.aload_n 0, 1) := by decide +kernel
theorem dX8_register_1 : decode cX8_register 1 = .ok (.aload_n 0, 1) := by decide +kernel
theorem dX8_register_2 : decode cX8_register 2 = .ok (.iload_n 1, 1) := by decide +kernel
theorem dX8_register_3 : decode cX8_register 3 = .ok (.iconst 3, 1) := by decide +kernel
theorem dX8_register_4 : decode cX8_register 4 = .ok (.invokevirtual 92, 3) := by decide +kernel
theorem dX8_register_7 : decode cX8_register 7 = .ok (.ifCond .ne 13, 3) := by decide +kernel
theorem dX8_register_10 : decode cX8_register 10 = .ok (.aload_n 0, 1) := by decide +kernel
theorem dX8_register_11 : decode cX8_register 11 = .ok (.iload_n 2, 1) := by decide +kernel
theorem dX8_register_12 : decode cX8_register 12 = .ok (.bipush 16, 2) := by decide +kernel
theorem dX8_register_14 : decode cX8_register 14 = .ok (.invokevirtual 92, 3) := by decide +kernel
theorem dX8_register_17 : decode cX8_register 17 = .ok (.ifCond .eq 7, 3) := by decide +kernel
theorem dX8_register_20 : decode cX8_register 20 = .ok (.iconst 1, 1) := by decide +kernel
theorem dX8_register_21 : decode cX8_register 21 = .ok (.goto 15, 3) := by decide +kernel
theorem dX8_register_24 : decode cX8_register 24 = .ok (.aload_n 0, 1) := by decide +kernel
theorem dX8_register_25 : decode cX8_register 25 = .ok (.getfield 88, 3) := by decide +kernel
theorem dX8_register_28 : decode cX8_register 28 = .ok (.ifCond .ne 7, 3) := by decide +kernel
theorem dX8_register_31 : decode cX8_register 31 = .ok (.iconst 2, 1) := by decide +kernel
theorem dX8_register_32 : decode cX8_register 32 = .ok (.goto 4, 3) := by decide +kernel
theorem dX8_register_35 : decode cX8_register 35 = .ok (.iconst 0, 1) := by decide +kernel
theorem dX8_register_36 : decode cX8_register 36 = .ok (.putfield 84, 3) := by decide +kernel
theorem dX8_register_39 : decode cX8_register 39 = .ok (.aload_n 0, 1) := by decide +kernel
theorem dX8_register_40 : decode cX8_register 40 = .ok (.getfield 84, 3) := by decide +kernel
theorem dX8_register_43 : decode cX8_register 43 = .ok (.ifCond .eq 5, 3) := by decide +kernel
theorem dX8_register_46 : decode cX8_register 46 = .ok (.iconst 0, 1) := by decide +kernel
theorem dX8_register_47 : decode cX8_register 47 = .ok (.ireturn, 1) := by decide +kernel
theorem dX8_register_48 : decode cX8_register 48 = .ok (.iload_n 2, 1) := by decide +kernel
theorem dX8_register_49 : decode cX8_register 49 = .ok (.bipush 16, 2) := by decide +kernel
theorem dX8_register_51 : decode cX8_register 51 = .ok (.if_icmp .ne 12, 3) := by decide +kernel
theorem dX8_register_54 : decode cX8_register 54 = .ok (.aload_n 0, 1) := by decide +kernel
theorem dX8_register_55 : decode cX8_register 55 = .ok (.getfield 28, 3) := by decide +kernel
theorem dX8_register_58 : decode cX8_register 58 = .ok (.iload_n 1, 1) := by decide +kernel
theorem dX8_register_59 : decode cX8_register 59 = .ok (.iaload, 1) := by decide +kernel
theorem dX8_register_60 : decode cX8_register 60 = .ok (.goto 14, 3) := by decide +kernel
theorem dX8_register_63 : decode cX8_register 63 = .ok (.aload_n 0, 1) := by decide +kernel
theorem dX8_register_64 : decode cX8_register 64 = .ok (.getfield 16, 3) := by decide +kernel
theorem dX8_register_67 : decode cX8_register 67 = .ok (.iload_n 1, 1) := by decide +kernel
theorem dX8_register_68 : decode cX8_register 68 = .ok (.bipush 16, 2) := by decide +kernel
theorem dX8_register_70 : decode cX8_register 70 = .ok (.imul, 1) := by decide +kernel
theorem dX8_register_71 : decode cX8_register 71 = .ok (.iload_n 2, 1) := by decide +kernel
theorem dX8_register_72 : decode cX8_register 72 = .ok (.iadd, 1) := by decide +kernel
theorem dX8_register_73 : decode cX8_register 73 = .ok (.iaload, 1) := by decide +kernel
theorem dX8_register_74 : decode cX8_register 74 = .ok (.ireturn, 1) := by decide +kernel
theorem dX8_memory_0 : decode cX8_memory 0 = .ok (.aload_n 0, 1) := by decide +kernel
theorem dX8_memory_1 : decode cX8_memory 1 = .ok (.aload_n 0, 1) := by decide +kernel
theorem dX8_memory_2 : decode cX8_memory 2 = .ok (.iload_n 1, 1) := by decide +kernel
theorem dX8_memory_3 : decode cX8_memory 3 = .ok (.bipush 95, 2) := by decide +kernel
theorem dX8_memory_5 : decode cX8_memory 5 = .ok (.invokevirtual 92, 3) := by decide +kernel
theorem dX8_memory_8 : decode cX8_memory 8 = .ok (.ifCond .eq 7, 3) := by decide +kernel
theorem dX8_memory_11 : decode cX8_memory 11 = .ok (.iconst 1, 1) := by decide +kernel
theorem dX8_memory_12 : decode cX8_memory 12 = .ok (.goto 4, 3) := by decide +kernel
theorem dX8_memory_15 : decode cX8_memory 15 = .ok (.iconst 0, 1) := by decide +kernel
theorem dX8_memory_16 : decode cX8_memory 16 = .ok (.putfield 84, 3) := by decide +kernel
theorem dX8_memory_19 : decode cX8_memory 19 = .ok (.aload_n 0, 1) := by decide +kernel
theorem dX8_memory_20 : decode cX8_memory 20 = .ok (.getfield 84, 3) := by decide +kernel
theorem dX8_memory_23 : decode cX8_memory 23 = .ok (.ifCond .ne 12, 3) := by decide +kernel
theorem dX8_memory_26 : decode cX8_memory 26 = .ok (.aload_n 0, 1) := by decide +kernel
theorem dX8_memory_27 : decode cX8_memory 27 = .ok (.getfield 7, 3) := by decide +kernel
theorem dX8_memory_30 : decode cX8_memory 30 = .ok (.iload_n 1, 1) := by decide +kernel
theorem dX8_memory_31 : decode cX8_memory 31 = .ok (.iaload, 1) := by decide +kernel
theorem dX8_memory_32 : decode cX8_memory 32 = .ok (.goto 4, 3) := by decide +kernel
theorem dX8_memory_35 : decode cX8_memory 35 = .ok (.iconst 0, 1) := by decide +kernel
theorem dX8_memory_36 : decode cX8_memory 36 = .ok (.ireturn, 1) := by decide +kernel
theorem dX8_told_0 : decode cX8_told 0 = .ok (.aload_n 0, 1) := by decide +kernel
theorem dX8_told_1 : decode cX8_told 1 = .ok (.aload_n 0, 1) := by decide +kernel
theorem dX8_told_2 : decode cX8_told 2 = .ok (.iload_n 1, 1) := by decide +kernel
theorem dX8_told_3 : decode cX8_told 3 = .ok (.iconst 3, 1) := by decide +kernel
theorem dX8_told_4 : decode cX8_told 4 = .ok (.invokevirtual 92, 3) := by decide +kernel
theorem dX8_told_7 : decode cX8_told 7 = .ok (.ifCond .ne 13, 3) := by decide +kernel
theorem dX8_told_10 : decode cX8_told 10 = .ok (.aload_n 0, 1) := by decide +kernel
theorem dX8_told_11 : decode cX8_told 11 = .ok (.iload_n 2, 1) := by decide +kernel
theorem dX8_told_12 : decode cX8_told 12 = .ok (.bipush 8, 2) := by decide +kernel
theorem dX8_told_14 : decode cX8_told 14 = .ok (.invokevirtual 92, 3) := by decide +kernel
theorem dX8_told_17 : decode cX8_told 17 = .ok (.ifCond .eq 7, 3) := by decide +kernel
theorem dX8_told_20 : decode cX8_told 20 = .ok (.iconst 1, 1) := by decide +kernel
theorem dX8_told_21 : decode cX8_told 21 = .ok (.goto 4, 3) := by decide +kernel
theorem dX8_told_24 : decode cX8_told 24 = .ok (.iconst 0, 1) := by decide +kernel
theorem dX8_told_25 : decode cX8_told 25 = .ok (.putfield 84, 3) := by decide +kernel
theorem dX8_told_28 : decode cX8_told 28 = .ok (.aload_n 0, 1) := by decide +kernel
theorem dX8_told_29 : decode cX8_told 29 = .ok (.getfield 84, 3) := by decide +kernel
theorem dX8_told_32 : decode cX8_told 32 = .ok (.ifCond .ne 16, 3) := by decide +kernel
theorem dX8_told_35 : decode cX8_told 35 = .ok (.iload_n 2, 1) := by decide +kernel
theorem dX8_told_36 : decode cX8_told 36 = .ok (.bipush 6, 2) := by decide +kernel
theorem dX8_told_38 : decode cX8_told 38 = .ok (.if_icmp .ge 12, 3) := by decide +kernel
theorem dX8_told_41 : decode cX8_told 41 = .ok (.aload_n 0, 1) := by decide +kernel
theorem dX8_told_42 : decode cX8_told 42 = .ok (.getfield 88, 3) := by decide +kernel
theorem dX8_told_45 : decode cX8_told 45 = .ok (.ifCond .ne 5, 3) := by decide +kernel
theorem dX8_told_48 : decode cX8_told 48 = .ok (.iconst 0, 1) := by decide +kernel
theorem dX8_told_49 : decode cX8_told 49 = .ok (.ireturn, 1) := by decide +kernel
theorem dX8_told_50 : decode cX8_told 50 = .ok (.iload_n 2, 1) := by decide +kernel
theorem dX8_told_51 : decode cX8_told 51 = .ok (.tableswitch 109 0 7 #[45, 60, 67, 74, 81, 88, 95, 102], 45) := by decide +kernel
theorem dX8_told_96 : decode cX8_told 96 = .ok (.aload_n 0, 1) := by decide +kernel
theorem dX8_told_97 : decode cX8_told 97 = .ok (.getfield 46, 3) := by decide +kernel
theorem dX8_told_100 : decode cX8_told 100 = .ok (.iload_n 1, 1) := by decide +kernel
theorem dX8_told_101 : decode cX8_told 101 = .ok (.baload, 1) := by decide +kernel
theorem dX8_told_102 : decode cX8_told 102 = .ok (.ifCond .eq 7, 3) := by decide +kernel
theorem dX8_told_105 : decode cX8_told 105 = .ok (.iconst 1, 1) := by decide +kernel
theorem dX8_told_106 : decode cX8_told 106 = .ok (.goto 4, 3) := by decide +kernel
theorem dX8_told_109 : decode cX8_told 109 = .ok (.iconst 0, 1) := by decide +kernel
theorem dX8_told_110 : decode cX8_told 110 = .ok (.ireturn, 1) := by decide +kernel
theorem dX8_told_111 : decode cX8_told 111 = .ok (.aload_n 0, 1) := by decide +kernel
theorem dX8_told_112 : decode cX8_told 112 = .ok (.getfield 31, 3) := by decide +kernel
theorem dX8_told_115 : decode cX8_told 115 = .ok (.iload_n 1, 1) := by decide +kernel
theorem dX8_told_116 : decode cX8_told 116 = .ok (.iaload, 1) := by decide +kernel
theorem dX8_told_117 : decode cX8_told 117 = .ok (.ireturn, 1) := by decide +kernel
theorem dX8_told_118 : decode cX8_told 118 = .ok (.aload_n 0, 1) := by decide +kernel
theorem dX8_told_119 : decode cX8_told 119 = .ok (.getfield 34, 3) := by decide +kernel
theorem dX8_told_122 : decode cX8_told 122 = .ok (.iload_n 1, 1) := by decide +kernel
theorem dX8_told_123 : decode cX8_told 123 = .ok (.iaload, 1) := by decide +kernel
theorem dX8_told_124 : decode cX8_told 124 = .ok (.ireturn, 1) := by decide +kernel
theorem dX8_told_125 : decode cX8_told 125 = .ok (.aload_n 0, 1) := by decide +kernel
theorem dX8_told_126 : decode cX8_told 126 = .ok (.getfield 37, 3) := by decide +kernel
theorem dX8_told_129 : decode cX8_told 129 = .ok (.iload_n 1, 1) := by decide +kernel
theorem dX8_told_130 : decode cX8_told 130 = .ok (.iaload, 1) := by decide +kernel
theorem dX8_told_131 : decode cX8_told 131 = .ok (.ireturn, 1) := by decide +kernel
theorem dX8_told_132 : decode cX8_told 132 = .ok (.aload_n 0, 1) := by decide +kernel
theorem dX8_told_133 : decode cX8_told 133 = .ok (.getfield 40, 3) := by decide +kernel
theorem dX8_told_136 : decode cX8_told 136 = .ok (.iload_n 1, 1) := by decide +kernel
theorem dX8_told_137 : decode cX8_told 137 = .ok (.iaload, 1) := by decide +kernel
theorem dX8_told_138 : decode cX8_told 138 = .ok (.ireturn, 1) := by decide +kernel
theorem dX8_told_139 : decode cX8_told 139 = .ok (.aload_n 0, 1) := by decide +kernel
theorem dX8_told_140 : decode cX8_told 140 = .ok (.getfield 43, 3) := by decide +kernel
theorem dX8_told_143 : decode cX8_told 143 = .ok (.iload_n 1, 1) := by decide +kernel
theorem dX8_told_144 : decode cX8_told 144 = .ok (.iaload, 1) := by decide +kernel
theorem dX8_told_145 : decode cX8_told 145 = .ok (.ireturn, 1) := by decide +kernel
theorem dX8_told_146 : decode cX8_told 146 = .ok (.aload_n 0, 1) := by decide +kernel
theorem dX8_told_147 : decode cX8_told 147 = .ok (.getfield 25, 3) := by decide +kernel
theorem dX8_told_150 : decode cX8_told 150 = .ok (.iload_n 1, 1) := by decide +kernel
theorem dX8_told_151 : decode cX8_told 151 = .ok (.iaload, 1) := by decide +kernel
theorem dX8_told_152 : decode cX8_told 152 = .ok (.ireturn, 1) := by decide +kernel
theorem dX8_told_153 : decode cX8_told 153 = .ok (.aload_n 0, 1) := by decide +kernel
theorem dX8_told_154 : decode cX8_told 154 = .ok (.getfield 19, 3) := by decide +kernel
theorem dX8_told_157 : decode cX8_told 157 = .ok (.iload_n 1, 1) := by decide +kernel
theorem dX8_told_158 : decode cX8_told 158 = .ok (.iaload, 1) := by decide +kernel
theorem dX8_told_159 : decode cX8_told 159 = .ok (.ireturn, 1) := by decide +kernel
theorem dX8_told_160 : decode cX8_told 160 = .ok (.aload_n 0, 1) := by decide +kernel
theorem dX8_told_161 : decode cX8_told 161 = .ok (.getfield 22, 3) := by decide +kernel
theorem dX8_told_164 : decode cX8_told 164 = .ok (.iload_n 1, 1) := by decide +kernel
theorem dX8_told_165 : decode cX8_told 165 = .ok (.iaload, 1) := by decide +kernel
theorem dX8_told_166 : decode cX8_told 166 = .ok (.ireturn, 1) := by decide +kernel
theorem dX8_object_0 : decode cX8_object 0 = .ok (.aload_n 0, 1) := by decide +kernel
theorem dX8_object_1 : decode cX8_object 1 = .ok (.aload_n 0, 1) := by decide +kernel
theorem dX8_object_2 : decode cX8_object 2 = .ok (.iload_n 1, 1) := by decide +kernel
theorem dX8_object_3 : decode cX8_object 3 = .ok (.iconst 3, 1) := by decide +kernel
theorem dX8_object_4 : decode cX8_object 4 = .ok (.invokevirtual 92, 3) := by decide +kernel
theorem dX8_object_7 : decode cX8_object 7 = .ok (.ifCond .ne 12, 3) := by decide +kernel
theorem dX8_object_10 : decode cX8_object 10 = .ok (.aload_n 0, 1) := by decide +kernel
theorem dX8_object_11 : decode cX8_object 11 = .ok (.iload_n 2, 1) := by decide +kernel
theorem dX8_object_12 : decode cX8_object 12 = .ok (.iconst 3, 1) := by decide +kernel
theorem dX8_object_13 : decode cX8_object 13 = .ok (.invokevirtual 92, 3) := by decide +kernel
theorem dX8_object_16 : decode cX8_object 16 = .ok (.ifCond .eq 7, 3) := by decide +kernel
theorem dX8_object_19 : decode cX8_object 19 = .ok (.iconst 1, 1) := by decide +kernel
theorem dX8_object_20 : decode cX8_object 20 = .ok (.goto 4, 3) := by decide +kernel
theorem dX8_object_23 : decode cX8_object 23 = .ok (.iconst 0, 1) := by decide +kernel
theorem dX8_object_24 : decode cX8_object 24 = .ok (.putfield 84, 3) := by decide +kernel
theorem dX8_object_27 : decode cX8_object 27 = .ok (.aload_n 0, 1) := by decide +kernel
theorem dX8_object_28 : decode cX8_object 28 = .ok (.getfield 84, 3) := by decide +kernel
theorem dX8_object_31 : decode cX8_object 31 = .ok (.ifCond .eq 5, 3) := by decide +kernel
theorem dX8_object_34 : decode cX8_object 34 = .ok (.iconst 0, 1) := by decide +kernel
theorem dX8_object_35 : decode cX8_object 35 = .ok (.ireturn, 1) := by decide +kernel
theorem dX8_object_36 : decode cX8_object 36 = .ok (.iload_n 2, 1) := by decide +kernel
theorem dX8_object_37 : decode cX8_object 37 = .ok (.ifCond .ne 23, 3) := by decide +kernel
theorem dX8_object_40 : decode cX8_object 40 = .ok (.aload_n 0, 1) := by decide +kernel
theorem dX8_object_41 : decode cX8_object 41 = .ok (.getfield 50, 3) := by decide +kernel
theorem dX8_object_44 : decode cX8_object 44 = .ok (.iload_n 1, 1) := by decide +kernel
theorem dX8_object_45 : decode cX8_object 45 = .ok (.baload, 1) := by decide +kernel
theorem dX8_object_46 : decode cX8_object 46 = .ok (.ifCond .eq 12, 3) := by decide +kernel
theorem dX8_object_49 : decode cX8_object 49 = .ok (.aload_n 0, 1) := by decide +kernel
theorem dX8_object_50 : decode cX8_object 50 = .ok (.getfield 68, 3) := by decide +kernel
theorem dX8_object_53 : decode cX8_object 53 = .ok (.iload_n 1, 1) := by decide +kernel
theorem dX8_object_54 : decode cX8_object 54 = .ok (.iaload, 1) := by decide +kernel
theorem dX8_object_55 : decode cX8_object 55 = .ok (.goto 4, 3) := by decide +kernel
theorem dX8_object_58 : decode cX8_object 58 = .ok (.iconst 0, 1) := by decide +kernel
theorem dX8_object_59 : decode cX8_object 59 = .ok (.ireturn, 1) := by decide +kernel
theorem dX8_object_60 : decode cX8_object 60 = .ok (.iload_n 2, 1) := by decide +kernel
theorem dX8_object_61 : decode cX8_object 61 = .ok (.iconst 1, 1) := by decide +kernel
theorem dX8_object_62 : decode cX8_object 62 = .ok (.if_icmp .ne 23, 3) := by decide +kernel
theorem dX8_object_65 : decode cX8_object 65 = .ok (.aload_n 0, 1) := by decide +kernel
theorem dX8_object_66 : decode cX8_object 66 = .ok (.getfield 50, 3) := by decide +kernel
theorem dX8_object_69 : decode cX8_object 69 = .ok (.iload_n 1, 1) := by decide +kernel
theorem dX8_object_70 : decode cX8_object 70 = .ok (.baload, 1) := by decide +kernel
theorem dX8_object_71 : decode cX8_object 71 = .ok (.ifCond .eq 12, 3) := by decide +kernel
theorem dX8_object_74 : decode cX8_object 74 = .ok (.aload_n 0, 1) := by decide +kernel
theorem dX8_object_75 : decode cX8_object 75 = .ok (.getfield 71, 3) := by decide +kernel
theorem dX8_object_78 : decode cX8_object 78 = .ok (.iload_n 1, 1) := by decide +kernel
theorem dX8_object_79 : decode cX8_object 79 = .ok (.iaload, 1) := by decide +kernel
theorem dX8_object_80 : decode cX8_object 80 = .ok (.goto 4, 3) := by decide +kernel
theorem dX8_object_83 : decode cX8_object 83 = .ok (.iconst (-1), 1) := by decide +kernel
theorem dX8_object_84 : decode cX8_object 84 = .ok (.ireturn, 1) := by decide +kernel
theorem dX8_object_85 : decode cX8_object 85 = .ok (.iload_n 2, 1) := by decide +kernel
theorem dX8_object_86 : decode cX8_object 86 = .ok (.iconst 2, 1) := by decide +kernel
theorem dX8_object_87 : decode cX8_object 87 = .ok (.if_icmp .ne 12, 3) := by decide +kernel
theorem dX8_object_90 : decode cX8_object 90 = .ok (.aload_n 0, 1) := by decide +kernel
theorem dX8_object_91 : decode cX8_object 91 = .ok (.getfield 74, 3) := by decide +kernel
theorem dX8_object_94 : decode cX8_object 94 = .ok (.iload_n 1, 1) := by decide +kernel
theorem dX8_object_95 : decode cX8_object 95 = .ok (.iaload, 1) := by decide +kernel
theorem dX8_object_96 : decode cX8_object 96 = .ok (.goto 9, 3) := by decide +kernel
theorem dX8_object_99 : decode cX8_object 99 = .ok (.aload_n 0, 1) := by decide +kernel
theorem dX8_object_100 : decode cX8_object 100 = .ok (.getfield 77, 3) := by decide +kernel
theorem dX8_object_103 : decode cX8_object 103 = .ok (.iload_n 1, 1) := by decide +kernel
theorem dX8_object_104 : decode cX8_object 104 = .ok (.iaload, 1) := by decide +kernel
theorem dX8_object_105 : decode cX8_object 105 = .ok (.ireturn, 1) := by decide +kernel
theorem dX8_count_0 : decode cX8_count 0 = .ok (.aload_n 0, 1) := by decide +kernel
theorem dX8_count_1 : decode cX8_count 1 = .ok (.iconst 0, 1) := by decide +kernel
theorem dX8_count_2 : decode cX8_count 2 = .ok (.putfield 84, 3) := by decide +kernel
theorem dX8_count_5 : decode cX8_count 5 = .ok (.iload_n 1, 1) := by decide +kernel
theorem dX8_count_6 : decode cX8_count 6 = .ok (.iconst 1, 1) := by decide +kernel
theorem dX8_count_7 : decode cX8_count 7 = .ok (.if_icmp .lt 17, 3) := by decide +kernel
theorem dX8_count_10 : decode cX8_count 10 = .ok (.iload_n 1, 1) := by decide +kernel
theorem dX8_count_11 : decode cX8_count 11 = .ok (.iconst 5, 1) := by decide +kernel
theorem dX8_count_12 : decode cX8_count 12 = .ok (.if_icmp .gt 12, 3) := by decide +kernel
theorem dX8_count_15 : decode cX8_count 15 = .ok (.aload_n 0, 1) := by decide +kernel
theorem dX8_count_16 : decode cX8_count 16 = .ok (.getfield 88, 3) := by decide +kernel
theorem dX8_count_19 : decode cX8_count 19 = .ok (.ifCond .ne 5, 3) := by decide +kernel
theorem dX8_count_22 : decode cX8_count 22 = .ok (.iconst 0, 1) := by decide +kernel
theorem dX8_count_23 : decode cX8_count 23 = .ok (.ireturn, 1) := by decide +kernel
theorem dX8_count_24 : decode cX8_count 24 = .ok (.iload_n 1, 1) := by decide +kernel
theorem dX8_count_25 : decode cX8_count 25 = .ok (.tableswitch 95 0 7 #[47, 60, 65, 70, 75, 80, 85, 90], 47) := by decide +kernel
theorem dX8_count_72 : decode cX8_count 72 = .ok (.aload_n 0, 1) := by decide +kernel
theorem dX8_count_73 : decode cX8_count 73 = .ok (.getfield 88, 3) := by decide +kernel
theorem dX8_count_76 : decode cX8_count 76 = .ok (.ifCond .eq 7, 3) := by decide +kernel
theorem dX8_count_79 : decode cX8_count 79 = .ok (.iconst 1, 1) := by decide +kernel
theorem dX8_count_80 : decode cX8_count 80 = .ok (.goto 4, 3) := by decide +kernel
theorem dX8_count_83 : decode cX8_count 83 = .ok (.iconst 0, 1) := by decide +kernel
theorem dX8_count_84 : decode cX8_count 84 = .ok (.ireturn, 1) := by decide +kernel
theorem dX8_count_85 : decode cX8_count 85 = .ok (.aload_n 0, 1) := by decide +kernel
theorem dX8_count_86 : decode cX8_count 86 = .ok (.getfield 109, 3) := by decide +kernel
theorem dX8_count_89 : decode cX8_count 89 = .ok (.ireturn, 1) := by decide +kernel
theorem dX8_count_90 : decode cX8_count 90 = .ok (.aload_n 0, 1) := by decide +kernel
theorem dX8_count_91 : decode cX8_count 91 = .ok (.getfield 112, 3) := by decide +kernel
theorem dX8_count_94 : decode cX8_count 94 = .ok (.ireturn, 1) := by decide +kernel
theorem dX8_count_95 : decode cX8_count 95 = .ok (.aload_n 0, 1) := by decide +kernel
theorem dX8_count_96 : decode cX8_count 96 = .ok (.getfield 115, 3) := by decide +kernel
theorem dX8_count_99 : decode cX8_count 99 = .ok (.ireturn, 1) := by decide +kernel
theorem dX8_count_100 : decode cX8_count 100 = .ok (.aload_n 0, 1) := by decide +kernel
theorem dX8_count_101 : decode cX8_count 101 = .ok (.getfield 106, 3) := by decide +kernel
theorem dX8_count_104 : decode cX8_count 104 = .ok (.ireturn, 1) := by decide +kernel
theorem dX8_count_105 : decode cX8_count 105 = .ok (.aload_n 0, 1) := by decide +kernel
theorem dX8_count_106 : decode cX8_count 106 = .ok (.getfield 121, 3) := by decide +kernel
theorem dX8_count_109 : decode cX8_count 109 = .ok (.ireturn, 1) := by decide +kernel
theorem dX8_count_110 : decode cX8_count 110 = .ok (.aload_n 0, 1) := by decide +kernel
theorem dX8_count_111 : decode cX8_count 111 = .ok (.getfield 100, 3) := by decide +kernel
theorem dX8_count_114 : decode cX8_count 114 = .ok (.ireturn, 1) := by decide +kernel
theorem dX8_count_115 : decode cX8_count 115 = .ok (.aload_n 0, 1) := by decide +kernel
theorem dX8_count_116 : decode cX8_count 116 = .ok (.getfield 103, 3) := by decide +kernel
theorem dX8_count_119 : decode cX8_count 119 = .ok (.ireturn, 1) := by decide +kernel
theorem dX8_count_120 : decode cX8_count 120 = .ok (.iconst (-1), 1) := by decide +kernel
theorem dX8_count_121 : decode cX8_count 121 = .ok (.ireturn, 1) := by decide +kernel
