theorem dX10_sentence_0 : decode cX10_sentence 0 = .ok (.aload_n 0, 1) := by decide +kernel
theorem dX10_sentence_1 : decode cX10_sentence 1 = .ok (.invokevirtual 150, 3) := by decide +kernel
theorem dX10_sentence_10 : decode cX10_sentence 10 = .ok (.goto 4, 3) := by decide +kernel
theorem dX10_sentence_102 : decode cX10_sentence 102 = .ok (.iconst 1, 1) := by decide +kernel
theorem dX10_sentence_103 : decode cX10_sentence 103 = .ok (.iadd, 1) := by decide +kernel
theorem dX10_sentence_104 : decode cX10_sentence 104 = .ok (.putfield 144, 3) := by decide +kernel
theorem dX10_sentence_107 : decode cX10_sentence 107 = .ok (.aload_n 0, 1) := by decide +kernel
theorem dX10_sentence_108 : decode cX10_sentence 108 = .ok (.invokevirtual 184, 3) := by decide +kernel
theorem dX10_sentence_111 : decode cX10_sentence 111 = .ok (.goto 59, 3) := by decide +kernel
theorem dX10_sentence_114 : decode cX10_sentence 114 = .ok (.aload_n 0, 1) := by decide +kernel
theorem dX10_sentence_115 : decode cX10_sentence 115 = .ok (.invokevirtual 187, 3) := by decide +kernel
theorem dX10_sentence_118 : decode cX10_sentence 118 = .ok (.ifCond .ne 13, 3) := by decide +kernel
theorem dX10_sentence_121 : decode cX10_sentence 121 = .ok (.aload_n 0, 1) := by decide +kernel
theorem dX10_sentence_122 : decode cX10_sentence 122 = .ok (.iconst 1, 1) := by decide +kernel
theorem dX10_sentence_123 : decode cX10_sentence 123 = .ok (.aload_n 0, 1) := by decide +kernel
theorem dX10_sentence_124 : decode cX10_sentence 124 = .ok (.getfield 144, 3) := by decide +kernel
theorem dX10_sentence_127 : decode cX10_sentence 127 = .ok (.invokevirtual 167, 3) := by decide +kernel
theorem dX10_sentence_13 : decode cX10_sentence 13 = .ok (.iconst 0, 1) := by decide +kernel
theorem dX10_sentence_130 : decode cX10_sentence 130 = .ok (.ireturn, 1) := by decide +kernel
theorem dX10_sentence_131 : decode cX10_sentence 131 = .ok (.aload_n 0, 1) := by decide +kernel
theorem dX10_sentence_132 : decode cX10_sentence 132 = .ok (.iconst 0, 1) := by decide +kernel
theorem dX10_sentence_133 : decode cX10_sentence 133 = .ok (.iconst (-1), 1) := by decide +kernel
theorem dX10_sentence_134 : decode cX10_sentence 134 = .ok (.invokevirtual 191, 3) := by decide +kernel
theorem dX10_sentence_137 : decode cX10_sentence 137 = .ok (.ifCond .ne 5, 3) := by decide +kernel
theorem dX10_sentence_14 : decode cX10_sentence 14 = .ok (.istore_n 1, 1) := by decide +kernel
theorem dX10_sentence_140 : decode cX10_sentence 140 = .ok (.iconst 0, 1) := by decide +kernel
theorem dX10_sentence_141 : decode cX10_sentence 141 = .ok (.ireturn, 1) := by decide +kernel
theorem dX10_sentence_142 : decode cX10_sentence 142 = .ok (.aload_n 0, 1) := by decide +kernel
theorem dX10_sentence_143 : decode cX10_sentence 143 = .ok (.iconst 1, 1) := by decide +kernel
theorem dX10_sentence_144 : decode cX10_sentence 144 = .ok (.aload_n 0, 1) := by decide +kernel
theorem dX10_sentence_145 : decode cX10_sentence 145 = .ok (.getfield 181, 3) := by decide +kernel
theorem dX10_sentence_148 : decode cX10_sentence 148 = .ok (.iconst 1, 1) := by decide +kernel
theorem dX10_sentence_149 : decode cX10_sentence 149 = .ok (.isub, 1) := by decide +kernel
theorem dX10_sentence_15 : decode cX10_sentence 15 = .ok (.aload_n 0, 1) := by decide +kernel
theorem dX10_sentence_150 : decode cX10_sentence 150 = .ok (.iconst (-1), 1) := by decide +kernel
theorem dX10_sentence_151 : decode cX10_sentence 151 = .ok (.iconst 0, 1) := by decide +kernel
theorem dX10_sentence_152 : decode cX10_sentence 152 = .ok (.invokevirtual 194, 3) := by decide +kernel
theorem dX10_sentence_155 : decode cX10_sentence 155 = .ok (.aload_n 0, 1) := by decide +kernel
theorem dX10_sentence_156 : decode cX10_sentence 156 = .ok (.getfield 98, 3) := by decide +kernel
theorem dX10_sentence_159 : decode cX10_sentence 159 = .ok (.aload_n 0, 1) := by decide +kernel
theorem dX10_sentence_16 : decode cX10_sentence 16 = .ok (.iconst 0, 1) := by decide +kernel
theorem dX10_sentence_160 : decode cX10_sentence 160 = .ok (.getfield 212, 3) := by decide +kernel
theorem dX10_sentence_163 : decode cX10_sentence 163 = .ok (.aload_n 0, 1) := by decide +kernel
theorem dX10_sentence_164 : decode cX10_sentence 164 = .ok (.getfield 181, 3) := by decide +kernel
theorem dX10_sentence_167 : decode cX10_sentence 167 = .ok (.iconst 1, 1) := by decide +kernel
theorem dX10_sentence_168 : decode cX10_sentence 168 = .ok (.isub, 1) := by decide +kernel
theorem dX10_sentence_169 : decode cX10_sentence 169 = .ok (.iastore, 1) := by decide +kernel
theorem dX10_sentence_17 : decode cX10_sentence 17 = .ok (.putfield 171, 3) := by decide +kernel
theorem dX10_sentence_170 : decode cX10_sentence 170 = .ok (.aload_n 0, 1) := by decide +kernel
theorem dX10_sentence_171 : decode cX10_sentence 171 = .ok (.iconst 4, 1) := by decide +kernel
theorem dX10_sentence_172 : decode cX10_sentence 172 = .ok (.aload_n 0, 1) := by decide +kernel
theorem dX10_sentence_173 : decode cX10_sentence 173 = .ok (.getfield 117, 3) := by decide +kernel
theorem dX10_sentence_176 : decode cX10_sentence 176 = .ok (.iconst 0, 1) := by decide +kernel
theorem dX10_sentence_177 : decode cX10_sentence 177 = .ok (.iaload, 1) := by decide +kernel
theorem dX10_sentence_178 : decode cX10_sentence 178 = .ok (.aload_n 0, 1) := by decide +kernel
theorem dX10_sentence_179 : decode cX10_sentence 179 = .ok (.getfield 144, 3) := by decide +kernel
theorem dX10_sentence_182 : decode cX10_sentence 182 = .ok (.iconst 0, 1) := by decide +kernel
theorem dX10_sentence_183 : decode cX10_sentence 183 = .ok (.invokevirtual 177, 3) := by decide +kernel
theorem dX10_sentence_186 : decode cX10_sentence 186 = .ok (.aload_n 0, 1) := by decide +kernel
theorem dX10_sentence_187 : decode cX10_sentence 187 = .ok (.dup, 1) := by decide +kernel
theorem dX10_sentence_188 : decode cX10_sentence 188 = .ok (.getfield 212, 3) := by decide +kernel
theorem dX10_sentence_191 : decode cX10_sentence 191 = .ok (.iconst 1, 1) := by decide +kernel
theorem dX10_sentence_192 : decode cX10_sentence 192 = .ok (.iadd, 1) := by decide +kernel
theorem dX10_sentence_193 : decode cX10_sentence 193 = .ok (.putfield 212, 3) := by decide +kernel
theorem dX10_sentence_196 : decode cX10_sentence 196 = .ok (.aload_n 0, 1) := by decide +kernel
theorem dX10_sentence_197 : decode cX10_sentence 197 = .ok (.invokevirtual 187, 3) := by decide +kernel
theorem dX10_sentence_20 : decode cX10_sentence 20 = .ok (.aload_n 0, 1) := by decide +kernel
theorem dX10_sentence_200 : decode cX10_sentence 200 = .ok (.ifCond .ne 13, 3) := by decide +kernel
theorem dX10_sentence_203 : decode cX10_sentence 203 = .ok (.aload_n 0, 1) := by decide +kernel
theorem dX10_sentence_204 : decode cX10_sentence 204 = .ok (.iconst 1, 1) := by decide +kernel
theorem dX10_sentence_205 : decode cX10_sentence 205 = .ok (.aload_n 0, 1) := by decide +kernel
theorem dX10_sentence_206 : decode cX10_sentence 206 = .ok (.getfield 144, 3) := by decide +kernel
theorem dX10_sentence_209 : decode cX10_sentence 209 = .ok (.invokevirtual 167, 3) := by decide +kernel
theorem dX10_sentence_21 : decode cX10_sentence 21 = .ok (.iconst 0, 1) := by decide +kernel
theorem dX10_sentence_212 : decode cX10_sentence 212 = .ok (.ireturn, 1) := by decide +kernel
theorem dX10_sentence_213 : decode cX10_sentence 213 = .ok (.aload_n 0, 1) := by decide +kernel
theorem dX10_sentence_214 : decode cX10_sentence 214 = .ok (.getfield 174, 3) := by decide +kernel
theorem dX10_sentence_217 : decode cX10_sentence 217 = .ok (.ifCond .le 240, 3) := by decide +kernel
theorem dX10_sentence_22 : decode cX10_sentence 22 = .ok (.putfield 174, 3) := by decide +kernel
theorem dX10_sentence_220 : decode cX10_sentence 220 = .ok (.aload_n 0, 1) := by decide +kernel
theorem dX10_sentence_221 : decode cX10_sentence 221 = .ok (.invokevirtual 150, 3) := by decide +kernel
theorem dX10_sentence_224 : decode cX10_sentence 224 = .ok (.istore_n 2, 1) := by decide +kernel
theorem dX10_sentence_225 : decode cX10_sentence 225 = .ok (.aload_n 0, 1) := by decide +kernel
theorem dX10_sentence_226 : decode cX10_sentence 226 = .ok (.getfield 107, 3) := by decide +kernel
theorem dX10_sentence_229 : decode cX10_sentence 229 = .ok (.aload_n 0, 1) := by decide +kernel
theorem dX10_sentence_230 : decode cX10_sentence 230 = .ok (.getfield 174, 3) := by decide +kernel
theorem dX10_sentence_233 : decode cX10_sentence 233 = .ok (.iconst 1, 1) := by decide +kernel
theorem dX10_sentence_234 : decode cX10_sentence 234 = .ok (.isub, 1) := by decide +kernel
theorem dX10_sentence_235 : decode cX10_sentence 235 = .ok (.iaload, 1) := by decide +kernel
theorem dX10_sentence_236 : decode cX10_sentence 236 = .ok (.istore_n 3, 1) := by decide +kernel
theorem dX10_sentence_237 : decode cX10_sentence 237 = .ok (.aload_n 0, 1) := by decide +kernel
theorem dX10_sentence_238 : decode cX10_sentence 238 = .ok (.invokevirtual 187, 3) := by decide +kernel
theorem dX10_sentence_241 : decode cX10_sentence 241 = .ok (.ifCond .eq 12, 3) := by decide +kernel
theorem dX10_sentence_244 : decode cX10_sentence 244 = .ok (.aload_n 0, 1) := by decide +kernel
theorem dX10_sentence_245 : decode cX10_sentence 245 = .ok (.invokevirtual 215, 3) := by decide +kernel
theorem dX10_sentence_248 : decode cX10_sentence 248 = .ok (.ifCond .ne 202, 3) := by decide +kernel
theorem dX10_sentence_25 : decode cX10_sentence 25 = .ok (.aload_n 0, 1) := by decide +kernel
theorem dX10_sentence_251 : decode cX10_sentence 251 = .ok (.iconst 0, 1) := by decide +kernel
theorem dX10_sentence_252 : decode cX10_sentence 252 = .ok (.ireturn, 1) := by decide +kernel
theorem dX10_sentence_253 : decode cX10_sentence 253 = .ok (.iload_n 3, 1) := by decide +kernel
theorem dX10_sentence_254 : decode cX10_sentence 254 = .ok (.iconst 1, 1) := by decide +kernel
theorem dX10_sentence_255 : decode cX10_sentence 255 = .ok (.if_icmp .ne 51, 3) := by decide +kernel
theorem dX10_sentence_258 : decode cX10_sentence 258 = .ok (.iload_n 2, 1) := by decide +kernel
theorem dX10_sentence_259 : decode cX10_sentence 259 = .ok (.bipush 46, 2) := by decide +kernel
theorem dX10_sentence_26 : decode cX10_sentence 26 = .ok (.getfield 117, 3) := by decide +kernel
theorem dX10_sentence_261 : decode cX10_sentence 261 = .ok (.if_icmp .ne 45, 3) := by decide +kernel
theorem dX10_sentence_264 : decode cX10_sentence 264 = .ok (.aload_n 0, 1) := by decide +kernel
theorem dX10_sentence_265 : decode cX10_sentence 265 = .ok (.getfield 117, 3) := by decide +kernel
theorem dX10_sentence_268 : decode cX10_sentence 268 = .ok (.iconst 0, 1) := by decide +kernel
theorem dX10_sentence_269 : decode cX10_sentence 269 = .ok (.iaload, 1) := by decide +kernel
theorem dX10_sentence_270 : decode cX10_sentence 270 = .ok (.istore 4, 2) := by decide +kernel
theorem dX10_sentence_272 : decode cX10_sentence 272 = .ok (.aload_n 0, 1) := by decide +kernel
theorem dX10_sentence_273 : decode cX10_sentence 273 = .ok (.invokevirtual 218, 3) := by decide +kernel
theorem dX10_sentence_276 : decode cX10_sentence 276 = .ok (.ifCond .ne 5, 3) := by decide +kernel
theorem dX10_sentence_279 : decode cX10_sentence 279 = .ok (.iconst 0, 1) := by decide +kernel
theorem dX10_sentence_280 : decode cX10_sentence 280 = .ok (.ireturn, 1) := by decide +kernel
theorem dX10_sentence_281 : decode cX10_sentence 281 = .ok (.aload_n 0, 1) := by decide +kernel
theorem dX10_sentence_282 : decode cX10_sentence 282 = .ok (.iconst 5, 1) := by decide +kernel
theorem dX10_sentence_283 : decode cX10_sentence 283 = .ok (.iload 4, 2) := by decide +kernel
theorem dX10_sentence_285 : decode cX10_sentence 285 = .ok (.aload_n 0, 1) := by decide +kernel
theorem dX10_sentence_286 : decode cX10_sentence 286 = .ok (.getfield 144, 3) := by decide +kernel
theorem dX10_sentence_289 : decode cX10_sentence 289 = .ok (.iconst 0, 1) := by decide +kernel
theorem dX10_sentence_29 : decode cX10_sentence 29 = .ok (.iconst 0, 1) := by decide +kernel
theorem dX10_sentence_290 : decode cX10_sentence 290 = .ok (.invokevirtual 177, 3) := by decide +kernel
theorem dX10_sentence_293 : decode cX10_sentence 293 = .ok (.aload_n 0, 1) := by decide +kernel
theorem dX10_sentence_294 : decode cX10_sentence 294 = .ok (.dup, 1) := by decide +kernel
theorem dX10_sentence_295 : decode cX10_sentence 295 = .ok (.getfield 144, 3) := by decide +kernel
theorem dX10_sentence_298 : decode cX10_sentence 298 = .ok (.iconst 1, 1) := by decide +kernel
theorem dX10_sentence_299 : decode cX10_sentence 299 = .ok (.iadd, 1) := by decide +kernel
theorem dX10_sentence_30 : decode cX10_sentence 30 = .ok (.iload_n 1, 1) := by decide +kernel
theorem dX10_sentence_300 : decode cX10_sentence 300 = .ok (.putfield 144, 3) := by decide +kernel
theorem dX10_sentence_303 : decode cX10_sentence 303 = .ok (.goto 147, 3) := by decide +kernel
theorem dX10_sentence_306 : decode cX10_sentence 306 = .ok (.iload_n 3, 1) := by decide +kernel
theorem dX10_sentence_307 : decode cX10_sentence 307 = .ok (.iconst 2, 1) := by decide +kernel
theorem dX10_sentence_308 : decode cX10_sentence 308 = .ok (.if_icmp .ne 31, 3) := by decide +kernel
theorem dX10_sentence_31 : decode cX10_sentence 31 = .ok (.ifCond .eq 8, 3) := by decide +kernel
theorem dX10_sentence_311 : decode cX10_sentence 311 = .ok (.iload_n 2, 1) := by decide +kernel
theorem dX10_sentence_312 : decode cX10_sentence 312 = .ok (.bipush 41, 2) := by decide +kernel
theorem dX10_sentence_314 : decode cX10_sentence 314 = .ok (.if_icmp .ne 25, 3) := by decide +kernel
theorem dX10_sentence_317 : decode cX10_sentence 317 = .ok (.aload_n 0, 1) := by decide +kernel
theorem dX10_sentence_318 : decode cX10_sentence 318 = .ok (.invokevirtual 218, 3) := by decide +kernel
theorem dX10_sentence_321 : decode cX10_sentence 321 = .ok (.ifCond .ne 5, 3) := by decide +kernel
theorem dX10_sentence_324 : decode cX10_sentence 324 = .ok (.iconst 0, 1) := by decide +kernel
theorem dX10_sentence_325 : decode cX10_sentence 325 = .ok (.ireturn, 1) := by decide +kernel
theorem dX10_sentence_326 : decode cX10_sentence 326 = .ok (.aload_n 0, 1) := by decide +kernel
theorem dX10_sentence_327 : decode cX10_sentence 327 = .ok (.dup, 1) := by decide +kernel
theorem dX10_sentence_328 : decode cX10_sentence 328 = .ok (.getfield 144, 3) := by decide +kernel
theorem dX10_sentence_331 : decode cX10_sentence 331 = .ok (.iconst 1, 1) := by decide +kernel
theorem dX10_sentence_332 : decode cX10_sentence 332 = .ok (.iadd, 1) := by decide +kernel
theorem dX10_sentence_333 : decode cX10_sentence 333 = .ok (.putfield 144, 3) := by decide +kernel
theorem dX10_sentence_336 : decode cX10_sentence 336 = .ok (.goto 114, 3) := by decide +kernel
theorem dX10_sentence_339 : decode cX10_sentence 339 = .ok (.iload_n 3, 1) := by decide +kernel
theorem dX10_sentence_34 : decode cX10_sentence 34 = .ok (.bipush (-2), 2) := by decide +kernel
theorem dX10_sentence_340 : decode cX10_sentence 340 = .ok (.iconst 3, 1) := by decide +kernel
theorem dX10_sentence_341 : decode cX10_sentence 341 = .ok (.if_icmp .ne 99, 3) := by decide +kernel
theorem dX10_sentence_344 : decode cX10_sentence 344 = .ok (.iload_n 2, 1) := by decide +kernel
theorem dX10_sentence_345 : decode cX10_sentence 345 = .ok (.bipush 124, 2) := by decide +kernel
theorem dX10_sentence_347 : decode cX10_sentence 347 = .ok (.if_icmp .eq 24, 3) := by decide +kernel
theorem dX10_sentence_350 : decode cX10_sentence 350 = .ok (.iload_n 2, 1) := by decide +kernel
theorem dX10_sentence_351 : decode cX10_sentence 351 = .ok (.bipush 125, 2) := by decide +kernel
theorem dX10_sentence_353 : decode cX10_sentence 353 = .ok (.if_icmp .ne 87, 3) := by decide +kernel
theorem dX10_sentence_356 : decode cX10_sentence 356 = .ok (.aload_n 0, 1) := by decide +kernel
theorem dX10_sentence_357 : decode cX10_sentence 357 = .ok (.getfield 123, 3) := by decide +kernel
theorem dX10_sentence_36 : decode cX10_sentence 36 = .ok (.goto 4, 3) := by decide +kernel
theorem dX10_sentence_360 : decode cX10_sentence 360 = .ok (.aload_n 0, 1) := by decide +kernel
theorem dX10_sentence_361 : decode cX10_sentence 361 = .ok (.getfield 174, 3) := by decide +kernel
theorem dX10_sentence_364 : decode cX10_sentence 364 = .ok (.iconst 1, 1) := by decide +kernel
theorem dX10_sentence_365 : decode cX10_sentence 365 = .ok (.isub, 1) := by decide +kernel
theorem dX10_sentence_366 : decode cX10_sentence 366 = .ok (.iaload, 1) := by decide +kernel
theorem dX10_sentence_367 : decode cX10_sentence 367 = .ok (.iconst 1, 1) := by decide +kernel
theorem dX10_sentence_368 : decode cX10_sentence 368 = .ok (.if_icmp .le 72, 3) := by decide +kernel
theorem dX10_sentence_371 : decode cX10_sentence 371 = .ok (.aload_n 0, 1) := by decide +kernel
theorem dX10_sentence_372 : decode cX10_sentence 372 = .ok (.getfield 120, 3) := by decide +kernel
theorem dX10_sentence_375 : decode cX10_sentence 375 = .ok (.aload_n 0, 1) := by decide +kernel
theorem dX10_sentence_376 : decode cX10_sentence 376 = .ok (.getfield 174, 3) := by decide +kernel
theorem dX10_sentence_379 : decode cX10_sentence 379 = .ok (.iconst 1, 1) := by decide +kernel
theorem dX10_sentence_380 : decode cX10_sentence 380 = .ok (.isub, 1) := by decide +kernel
theorem dX10_sentence_381 : decode cX10_sentence 381 = .ok (.iaload, 1) := by decide +kernel
theorem dX10_sentence_382 : decode cX10_sentence 382 = .ok (.istore 4, 2) := by decide +kernel
theorem dX10_sentence_384 : decode cX10_sentence 384 = .ok (.aload_n 0, 1) := by decide +kernel
theorem dX10_sentence_385 : decode cX10_sentence 385 = .ok (.getfield 123, 3) := by decide +kernel
theorem dX10_sentence_388 : decode cX10_sentence 388 = .ok (.aload_n 0, 1) := by decide +kernel
theorem dX10_sentence_389 : decode cX10_sentence 389 = .ok (.getfield 174, 3) := by decide +kernel
theorem dX10_sentence_39 : decode cX10_sentence 39 = .ok (.iconst 0, 1) := by decide +kernel
theorem dX10_sentence_392 : decode cX10_sentence 392 = .ok (.iconst 1, 1) := by decide +kernel
theorem dX10_sentence_393 : decode cX10_sentence 393 = .ok (.isub, 1) := by decide +kernel
theorem dX10_sentence_394 : decode cX10_sentence 394 = .ok (.iaload, 1) := by decide +kernel
theorem dX10_sentence_395 : decode cX10_sentence 395 = .ok (.istore 5, 2) := by decide +kernel
theorem dX10_sentence_397 : decode cX10_sentence 397 = .ok (.aload_n 0, 1) := by decide +kernel
theorem dX10_sentence_398 : decode cX10_sentence 398 = .ok (.invokevirtual 218, 3) := by decide +kernel
theorem dX10_sentence_4 : decode cX10_sentence 4 = .ok (.bipush 61, 2) := by decide +kernel
theorem dX10_sentence_40 : decode cX10_sentence 40 = .ok (.iastore, 1) := by decide +kernel
theorem dX10_sentence_401 : decode cX10_sentence 401 = .ok (.ifCond .ne 5, 3) := by decide +kernel
theorem dX10_sentence_404 : decode cX10_sentence 404 = .ok (.iconst 0, 1) := by decide +kernel
theorem dX10_sentence_405 : decode cX10_sentence 405 = .ok (.ireturn, 1) := by decide +kernel
theorem dX10_sentence_406 : decode cX10_sentence 406 = .ok (.aload_n 0, 1) := by decide +kernel
theorem dX10_sentence_407 : decode cX10_sentence 407 = .ok (.dup, 1) := by decide +kernel
theorem dX10_sentence_408 : decode cX10_sentence 408 = .ok (.getfield 144, 3) := by decide +kernel
theorem dX10_sentence_41 : decode cX10_sentence 41 = .ok (.iload_n 1, 1) := by decide +kernel
theorem dX10_sentence_411 : decode cX10_sentence 411 = .ok (.iconst 1, 1) := by decide +kernel
theorem dX10_sentence_412 : decode cX10_sentence 412 = .ok (.iadd, 1) := by decide +kernel
theorem dX10_sentence_413 : decode cX10_sentence 413 = .ok (.putfield 144, 3) := by decide +kernel
theorem dX10_sentence_416 : decode cX10_sentence 416 = .ok (.iload_n 2, 1) := by decide +kernel
theorem dX10_sentence_417 : decode cX10_sentence 417 = .ok (.bipush 124, 2) := by decide +kernel
theorem dX10_sentence_419 : decode cX10_sentence 419 = .ok (.if_icmp .ne 18, 3) := by decide +kernel
theorem dX10_sentence_42 : decode cX10_sentence 42 = .ok (.ifCond .eq 72, 3) := by decide +kernel
theorem dX10_sentence_422 : decode cX10_sentence 422 = .ok (.aload_n 0, 1) := by decide +kernel
theorem dX10_sentence_423 : decode cX10_sentence 423 = .ok (.iload 4, 2) := by decide +kernel
theorem dX10_sentence_425 : decode cX10_sentence 425 = .ok (.iload 5, 2) := by decide +kernel
theorem dX10_sentence_427 : decode cX10_sentence 427 = .ok (.iconst 1, 1) := by decide +kernel
theorem dX10_sentence_428 : decode cX10_sentence 428 = .ok (.iadd, 1) := by decide +kernel
theorem dX10_sentence_429 : decode cX10_sentence 429 = .ok (.invokevirtual 203, 3) := by decide +kernel
theorem dX10_sentence_432 : decode cX10_sentence 432 = .ok (.ifCond .ne 5, 3) := by decide +kernel
theorem dX10_sentence_435 : decode cX10_sentence 435 = .ok (.iconst 0, 1) := by decide +kernel
theorem dX10_sentence_436 : decode cX10_sentence 436 = .ok (.ireturn, 1) := by decide +kernel
theorem dX10_sentence_437 : decode cX10_sentence 437 = .ok (.goto 13, 3) := by decide +kernel
theorem dX10_sentence_440 : decode cX10_sentence 440 = .ok (.aload_n 0, 1) := by decide +kernel
theorem dX10_sentence_441 : decode cX10_sentence 441 = .ok (.iconst 1, 1) := by decide +kernel
theorem dX10_sentence_442 : decode cX10_sentence 442 = .ok (.aload_n 0, 1) := by decide +kernel
theorem dX10_sentence_443 : decode cX10_sentence 443 = .ok (.getfield 144, 3) := by decide +kernel
theorem dX10_sentence_446 : decode cX10_sentence 446 = .ok (.invokevirtual 167, 3) := by decide +kernel
theorem dX10_sentence_449 : decode cX10_sentence 449 = .ok (.ireturn, 1) := by decide +kernel
theorem dX10_sentence_45 : decode cX10_sentence 45 = .ok (.aload_n 0, 1) := by decide +kernel
theorem dX10_sentence_450 : decode cX10_sentence 450 = .ok (.aload_n 0, 1) := by decide +kernel
theorem dX10_sentence_451 : decode cX10_sentence 451 = .ok (.invokevirtual 184, 3) := by decide +kernel
theorem dX10_sentence_454 : decode cX10_sentence 454 = .ok (.goto (-241), 3) := by decide +kernel
theorem dX10_sentence_457 : decode cX10_sentence 457 = .ok (.iconst 1, 1) := by decide +kernel
theorem dX10_sentence_458 : decode cX10_sentence 458 = .ok (.ireturn, 1) := by decide +kernel
theorem dX10_sentence_46 : decode cX10_sentence 46 = .ok (.iconst 1, 1) := by decide +kernel
theorem dX10_sentence_47 : decode cX10_sentence 47 = .ok (.bipush (-2), 2) := by decide +kernel
theorem dX10_sentence_49 : decode cX10_sentence 49 = .ok (.aload_n 0, 1) := by decide +kernel
theorem dX10_sentence_50 : decode cX10_sentence 50 = .ok (.getfield 209, 3) := by decide +kernel
theorem dX10_sentence_53 : decode cX10_sentence 53 = .ok (.isub, 1) := by decide +kernel
theorem dX10_sentence_54 : decode cX10_sentence 54 = .ok (.iconst (-1), 1) := by decide +kernel
theorem dX10_sentence_55 : decode cX10_sentence 55 = .ok (.iconst 0, 1) := by decide +kernel
theorem dX10_sentence_56 : decode cX10_sentence 56 = .ok (.invokevirtual 194, 3) := by decide +kernel
theorem dX10_sentence_59 : decode cX10_sentence 59 = .ok (.aload_n 0, 1) := by decide +kernel
theorem dX10_sentence_6 : decode cX10_sentence 6 = .ok (.if_icmp .ne 7, 3) := by decide +kernel
theorem dX10_sentence_60 : decode cX10_sentence 60 = .ok (.getfield 101, 3) := by decide +kernel
theorem dX10_sentence_63 : decode cX10_sentence 63 = .ok (.aload_n 0, 1) := by decide +kernel
theorem dX10_sentence_64 : decode cX10_sentence 64 = .ok (.getfield 209, 3) := by decide +kernel
theorem dX10_sentence_67 : decode cX10_sentence 67 = .ok (.iconst 0, 1) := by decide +kernel
theorem dX10_sentence_68 : decode cX10_sentence 68 = .ok (.iastore, 1) := by decide +kernel
theorem dX10_sentence_69 : decode cX10_sentence 69 = .ok (.aload_n 0, 1) := by decide +kernel
theorem dX10_sentence_70 : decode cX10_sentence 70 = .ok (.dup, 1) := by decide +kernel
theorem dX10_sentence_71 : decode cX10_sentence 71 = .ok (.getfield 209, 3) := by decide +kernel
theorem dX10_sentence_74 : decode cX10_sentence 74 = .ok (.iconst 1, 1) := by decide +kernel
theorem dX10_sentence_75 : decode cX10_sentence 75 = .ok (.iadd, 1) := by decide +kernel
theorem dX10_sentence_76 : decode cX10_sentence 76 = .ok (.putfield 209, 3) := by decide +kernel
theorem dX10_sentence_79 : decode cX10_sentence 79 = .ok (.aload_n 0, 1) := by decide +kernel
theorem dX10_sentence_80 : decode cX10_sentence 80 = .ok (.getfield 98, 3) := by decide +kernel
theorem dX10_sentence_83 : decode cX10_sentence 83 = .ok (.aload_n 0, 1) := by decide +kernel
theorem dX10_sentence_84 : decode cX10_sentence 84 = .ok (.getfield 212, 3) := by decide +kernel
theorem dX10_sentence_87 : decode cX10_sentence 87 = .ok (.bipush (-2), 2) := by decide +kernel
theorem dX10_sentence_89 : decode cX10_sentence 89 = .ok (.aload_n 0, 1) := by decide +kernel
theorem dX10_sentence_9 : decode cX10_sentence 9 = .ok (.iconst 1, 1) := by decide +kernel
theorem dX10_sentence_90 : decode cX10_sentence 90 = .ok (.getfield 209, 3) := by decide +kernel
theorem dX10_sentence_93 : decode cX10_sentence 93 = .ok (.isub, 1) := by decide +kernel
theorem dX10_sentence_94 : decode cX10_sentence 94 = .ok (.iconst 1, 1) := by decide +kernel
theorem dX10_sentence_95 : decode cX10_sentence 95 = .ok (.iadd, 1) := by decide +kernel
theorem dX10_sentence_96 : decode cX10_sentence 96 = .ok (.iastore, 1) := by decide +kernel
theorem dX10_sentence_97 : decode cX10_sentence 97 = .ok (.aload_n 0, 1) := by decide +kernel
theorem dX10_sentence_98 : decode cX10_sentence 98 = .ok (.dup, 1) := by decide +kernel
theorem dX10_sentence_99 : decode cX10_sentence 99 = .ok (.getfield 144, 3) := by decide +kernel
set_option maxRecDepth 20000 in
theorem ggX10_sentence_X10_see : GoodIn wsX10_sentence wsX10_see := goodIn_r _ [17, 8, 18, 19, 88, 89, 90, 91, 92, 93, 94, 95, 96, 97, 98, 99, 100, 101, 102, 103, 104, 105, 106, 107, 108, 109, 110, 111, 112, 113, 114, 115, 116, 117, 118, 119, 120, 121, 122, 123, 124, 125, 126, 127, 128, 129, 130, 131, 132, 133, 134, 135, 136, 137, 138, 139, 140, 141, 142, 143, 144, 145, 146, 147, 148, 149, 150, 151, 152, 153] rfl (by decide +kernel)
set_option maxRecDepth 20000 in
theorem gX10_sentence_X10_see : GoodIn wsX10_sentence (wsV RX10 150 RX10 yX10_see wsX10_see) := goodIn_app (goodIn_of _ (by decide +kernel)) ggX10_sentence_X10_see
set_option maxRecDepth 20000 in
theorem ggX10_sentence_X10_put : GoodIn wsX10_sentence wsX10_put := goodIn_r _ [57, 58, 59, 60, 61, 62, 63, 64, 88, 89, 90, 91, 92, 93, 94, 95, 96, 97, 98, 99, 100, 101, 102, 103, 104, 105, 106, 107, 108, 109, 110, 111, 112, 113, 114, 115, 116, 117, 118, 119, 120, 121, 122, 123, 124, 125, 126, 127, 128, 129, 130, 131, 132, 133, 134, 135, 136, 137, 138, 139, 140, 141, 142, 143, 144, 145, 146, 147, 148, 149, 150, 151, 152, 153] rfl (by decide +kernel)
set_option maxRecDepth 20000 in
theorem gX10_sentence_X10_put : GoodIn wsX10_sentence (wsV RX10 177 RX10 yX10_put wsX10_put) := goodIn_app (goodIn_of _ (by decide +kernel)) ggX10_sentence_X10_put
set_option maxRecDepth 20000 in
theorem ggX10_sentence_X10_canPart : GoodIn wsX10_sentence wsX10_canPart := goodIn_r _ [33, 3, 13, 14, 15, 16, 17, 8, 18, 19, 34, 35, 36, 37, 38, 39, 88, 89, 90, 91, 92, 93, 94, 95, 96, 97, 98, 99, 100, 101, 102, 103, 104, 105, 106, 107, 108, 109, 110, 111, 112, 113, 114, 115, 116, 117, 118, 119, 120, 121, 122, 123, 124, 125, 126, 127, 128, 129, 130, 131, 132, 133, 134, 135, 136, 137, 138, 139, 140, 141, 142, 143, 144, 145, 146, 147, 148, 149, 150, 151, 152, 153] rfl (by decide +kernel)
set_option maxRecDepth 20000 in
theorem gX10_sentence_X10_canPart : GoodIn wsX10_sentence (wsV RX10 187 RX10 yX10_canPart wsX10_canPart) := goodIn_app (goodIn_of _ (by decide +kernel)) ggX10_sentence_X10_canPart
set_option maxRecDepth 20000 in
theorem ggX10_sentence_X10_blanks : GoodIn wsX10_sentence wsX10_blanks := goodIn_r _ [29, 8, 13, 14, 15, 16, 17, 18, 19, 88, 89, 90, 91, 92, 93, 94, 95, 96, 97, 98, 99, 100, 101, 102, 103, 104, 105, 106, 107, 108, 109, 110, 111, 112, 113, 114, 115, 116, 117, 118, 119, 120, 121, 122, 123, 124, 125, 126, 127, 128, 129, 130, 131, 132, 133, 134, 135, 136, 137, 138, 139, 140, 141, 142, 143, 144, 145, 146, 147, 148, 149, 150, 151, 152, 153] rfl (by decide +kernel)
set_option maxRecDepth 20000 in
theorem gX10_sentence_X10_blanks : GoodIn wsX10_sentence (wsV RX10 184 RX10 yX10_blanks wsX10_blanks) := goodIn_app (goodIn_of _ (by decide +kernel)) ggX10_sentence_X10_blanks
set_option maxRecDepth 20000 in
theorem ggX10_sentence_X10_wrong : GoodIn wsX10_sentence wsX10_wrong := goodIn_r _ [43, 44, 45, 88, 89, 90, 91, 92, 93, 94, 95, 96, 97, 98, 99, 100, 101, 102, 103, 104, 105, 106, 107, 108, 109, 110, 111, 112, 113, 114, 115, 116, 117, 118, 119, 120, 121, 122, 123, 124, 125, 126, 127, 128, 129, 130, 131, 132, 133, 134, 135, 136, 137, 138, 139, 140, 141, 142, 143, 144, 145, 146, 147, 148, 149, 150, 151, 152, 153] rfl (by decide +kernel)
set_option maxRecDepth 20000 in
theorem gX10_sentence_X10_wrong : GoodIn wsX10_sentence (wsV RX10 167 RX10 yX10_wrong wsX10_wrong) := goodIn_app (goodIn_of _ (by decide +kernel)) ggX10_sentence_X10_wrong
set_option maxRecDepth 20000 in
theorem ggX10_sentence_X10_ends : GoodIn wsX10_sentence wsX10_ends := goodIn_r _ [87, 2, 25, 24, 10, 40, 41, 42, 16, 43, 44, 45, 88, 89, 90, 91, 92, 93, 94, 95, 96, 97, 98, 99, 100, 101, 102, 103, 104, 105, 106, 107, 108, 109, 110, 111, 112, 113, 114, 115, 116, 117, 118, 119, 120, 121, 122, 123, 124, 125, 126, 127, 128, 129, 130, 131, 132, 133, 134, 135, 136, 137, 138, 139, 140, 141, 142, 143, 144, 145, 146, 147, 148, 149, 150, 151, 152, 153] rfl (by decide +kernel)
set_option maxRecDepth 20000 in
theorem gX10_sentence_X10_ends : GoodIn wsX10_sentence (wsV RX10 218 RX10 yX10_ends wsX10_ends) := goodIn_app (goodIn_of _ (by decide +kernel)) ggX10_sentence_X10_ends
set_option maxRecDepth 20000 in
theorem ggX10_sentence_X10_item : GoodIn wsX10_sentence wsX10_item := goodIn_r _ [78, 8, 9, 26, 27, 28, 16, 29, 13, 14, 15, 17, 18, 19, 30, 31, 32, 33, 3, 34, 35, 36, 37, 38, 39, 40, 41, 42, 43, 44, 45, 46, 47, 48, 49, 50, 51, 2, 52, 53, 54, 55, 56, 57, 58, 59, 60, 61, 62, 63, 64, 20, 21, 22, 23, 10, 24, 25, 12, 11, 88, 89, 90, 91, 92, 93, 94, 95, 96, 97, 98, 99, 100, 101, 102, 103, 104, 105, 106, 107, 108, 109, 110, 111, 112, 113, 114, 115, 116, 117, 118, 119, 120, 121, 122, 123, 124, 125, 126, 127, 128, 129, 130, 131, 132, 133, 134, 135, 136, 137, 138, 139, 140, 141, 142, 143, 144, 145, 146, 147, 148, 149, 150, 151, 152, 153] rfl (by decide +kernel)
set_option maxRecDepth 20000 in
theorem gX10_sentence_X10_item : GoodIn wsX10_sentence (wsV RX10 203 RX10 yX10_item wsX10_item) := goodIn_app (goodIn_of _ (by decide +kernel)) ggX10_sentence_X10_item
set_option maxRecDepth 20000 in
theorem ggX10_sentence_X10_part : GoodIn wsX10_sentence wsX10_part := goodIn_r _ [68, 64, 8, 2, 9, 69, 70, 3, 13, 14, 15, 16, 17, 18, 19, 34, 35, 36, 37, 38, 39, 71, 72, 73, 74, 1, 59, 25, 40, 41, 42, 43, 44, 45, 54, 55, 56, 57, 58, 60, 61, 62, 63, 46, 47, 48, 49, 50, 51, 52, 53, 20, 21, 22, 23, 10, 24, 12, 11, 26, 27, 28, 29, 30, 31, 32, 33, 75, 76, 77, 78, 79, 80, 81, 82, 5, 83, 88, 89, 90, 91, 92, 93, 94, 95, 96, 97, 98, 99, 100, 101, 102, 103, 104, 105, 106, 107, 108, 109, 110, 111, 112, 113, 114, 115, 116, 117, 118, 119, 120, 121, 122, 123, 124, 125, 126, 127, 128, 129, 130, 131, 132, 133, 134, 135, 136, 137, 138, 139, 140, 141, 142, 143, 144, 145, 146, 147, 148, 149, 150, 151, 152, 153] rfl (by decide +kernel)
set_option maxRecDepth 20000 in
theorem gX10_sentence_X10_part : GoodIn wsX10_sentence (wsV RX10 215 RX10 yX10_part wsX10_part) := goodIn_app (goodIn_of _ (by decide +kernel)) ggX10_sentence_X10_part
set_option maxRecDepth 20000 in
theorem ggX10_sentence_X10_begins : GoodIn wsX10_sentence wsX10_begins := goodIn_r _ [49, 9, 8, 50, 51, 2, 3, 52, 53, 40, 41, 42, 16, 43, 44, 45, 88, 89, 90, 91, 92, 93, 94, 95, 96, 97, 98, 99, 100, 101, 102, 103, 104, 105, 106, 107, 108, 109, 110, 111, 112, 113, 114, 115, 116, 117, 118, 119, 120, 121, 122, 123, 124, 125, 126, 127, 128, 129, 130, 131, 132, 133, 134, 135, 136, 137, 138, 139, 140, 141, 142, 143, 144, 145, 146, 147, 148, 149, 150, 151, 152, 153] rfl (by decide +kernel)
set_option maxRecDepth 20000 in
theorem gX10_sentence_X10_begins : GoodIn wsX10_sentence (wsV RX10 191 RX10 yX10_begins wsX10_begins) := goodIn_app (goodIn_of _ (by decide +kernel)) ggX10_sentence_X10_begins
set_option maxRecDepth 20000 in
theorem ggX10_sentence_X10_opens : GoodIn wsX10_sentence wsX10_opens := goodIn_r _ [23, 10, 2, 24, 8, 25, 3, 12, 11, 88, 89, 90, 91, 92, 93, 94, 95, 96, 97, 98, 99, 100, 101, 102, 103, 104, 105, 106, 107, 108, 109, 110, 111, 112, 113, 114, 115, 116, 117, 118, 119, 120, 121, 122, 123, 124, 125, 126, 127, 128, 129, 130, 131, 132, 133, 134, 135, 136, 137, 138, 139, 140, 141, 142, 143, 144, 145, 146, 147, 148, 149, 150, 151, 152, 153] rfl (by decide +kernel)
set_option maxRecDepth 20000 in
theorem gX10_sentence_X10_opens : GoodIn wsX10_sentence (wsV RX10 194 RX10 yX10_opens wsX10_opens) := goodIn_app (goodIn_of _ (by decide +kernel)) ggX10_sentence_X10_opens
