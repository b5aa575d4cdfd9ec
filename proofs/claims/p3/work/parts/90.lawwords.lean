theorem dL_law_0 : decode cL_law 0 = .ok (.new 8, 3) := by decide +kernel
theorem dL_law_11 : decode cL_law 11 = .ok (.dup, 1) := by decide +kernel
theorem dL_law_12 : decode cL_law 12 = .ok (.invokespecial 20, 3) := by decide +kernel
theorem dL_law_120 : decode cL_law 120 = .ok (.aload_n 1, 1) := by decide +kernel
theorem dL_law_121 : decode cL_law 121 = .ok (.aload_n 0, 1) := by decide +kernel
theorem dL_law_122 : decode cL_law 122 = .ok (.iload 4, 2) := by decide +kernel
theorem dL_law_124 : decode cL_law 124 = .ok (.iconst 1, 1) := by decide +kernel
theorem dL_law_125 : decode cL_law 125 = .ok (.iadd, 1) := by decide +kernel
theorem dL_law_126 : decode cL_law 126 = .ok (.iaload, 1) := by decide +kernel
theorem dL_law_127 : decode cL_law 127 = .ok (.aload_n 0, 1) := by decide +kernel
theorem dL_law_128 : decode cL_law 128 = .ok (.iload 4, 2) := by decide +kernel
theorem dL_law_130 : decode cL_law 130 = .ok (.iconst 2, 1) := by decide +kernel
theorem dL_law_131 : decode cL_law 131 = .ok (.iadd, 1) := by decide +kernel
theorem dL_law_132 : decode cL_law 132 = .ok (.iaload, 1) := by decide +kernel
theorem dL_law_133 : decode cL_law 133 = .ok (.aload_n 0, 1) := by decide +kernel
theorem dL_law_134 : decode cL_law 134 = .ok (.iload 4, 2) := by decide +kernel
theorem dL_law_136 : decode cL_law 136 = .ok (.iconst 3, 1) := by decide +kernel
theorem dL_law_137 : decode cL_law 137 = .ok (.iadd, 1) := by decide +kernel
theorem dL_law_138 : decode cL_law 138 = .ok (.iaload, 1) := by decide +kernel
theorem dL_law_139 : decode cL_law 139 = .ok (.aload_n 0, 1) := by decide +kernel
theorem dL_law_140 : decode cL_law 140 = .ok (.iload 4, 2) := by decide +kernel
theorem dL_law_142 : decode cL_law 142 = .ok (.iconst 4, 1) := by decide +kernel
theorem dL_law_143 : decode cL_law 143 = .ok (.iadd, 1) := by decide +kernel
theorem dL_law_144 : decode cL_law 144 = .ok (.iaload, 1) := by decide +kernel
theorem dL_law_145 : decode cL_law 145 = .ok (.aload_n 0, 1) := by decide +kernel
theorem dL_law_146 : decode cL_law 146 = .ok (.iload 4, 2) := by decide +kernel
theorem dL_law_148 : decode cL_law 148 = .ok (.iconst 5, 1) := by decide +kernel
theorem dL_law_149 : decode cL_law 149 = .ok (.iadd, 1) := by decide +kernel
theorem dL_law_15 : decode cL_law 15 = .ok (.astore_n 2, 1) := by decide +kernel
theorem dL_law_150 : decode cL_law 150 = .ok (.iaload, 1) := by decide +kernel
theorem dL_law_151 : decode cL_law 151 = .ok (.invokevirtual 21, 3) := by decide +kernel
theorem dL_law_154 : decode cL_law 154 = .ok (.pop, 1) := by decide +kernel
theorem dL_law_155 : decode cL_law 155 = .ok (.aload_n 2, 1) := by decide +kernel
theorem dL_law_156 : decode cL_law 156 = .ok (.aload_n 0, 1) := by decide +kernel
theorem dL_law_157 : decode cL_law 157 = .ok (.iload 4, 2) := by decide +kernel
theorem dL_law_159 : decode cL_law 159 = .ok (.iconst 1, 1) := by decide +kernel
theorem dL_law_16 : decode cL_law 16 = .ok (.iconst 1, 1) := by decide +kernel
theorem dL_law_160 : decode cL_law 160 = .ok (.iadd, 1) := by decide +kernel
theorem dL_law_161 : decode cL_law 161 = .ok (.iaload, 1) := by decide +kernel
theorem dL_law_162 : decode cL_law 162 = .ok (.aload_n 0, 1) := by decide +kernel
theorem dL_law_163 : decode cL_law 163 = .ok (.iload 4, 2) := by decide +kernel
theorem dL_law_165 : decode cL_law 165 = .ok (.iconst 2, 1) := by decide +kernel
theorem dL_law_166 : decode cL_law 166 = .ok (.iadd, 1) := by decide +kernel
theorem dL_law_167 : decode cL_law 167 = .ok (.iaload, 1) := by decide +kernel
theorem dL_law_168 : decode cL_law 168 = .ok (.aload_n 0, 1) := by decide +kernel
theorem dL_law_169 : decode cL_law 169 = .ok (.iload 4, 2) := by decide +kernel
theorem dL_law_17 : decode cL_law 17 = .ok (.newarray .long, 2) := by decide +kernel
theorem dL_law_171 : decode cL_law 171 = .ok (.iconst 3, 1) := by decide +kernel
theorem dL_law_172 : decode cL_law 172 = .ok (.iadd, 1) := by decide +kernel
theorem dL_law_173 : decode cL_law 173 = .ok (.iaload, 1) := by decide +kernel
theorem dL_law_174 : decode cL_law 174 = .ok (.aload_n 0, 1) := by decide +kernel
theorem dL_law_175 : decode cL_law 175 = .ok (.iload 4, 2) := by decide +kernel
theorem dL_law_177 : decode cL_law 177 = .ok (.iconst 4, 1) := by decide +kernel
theorem dL_law_178 : decode cL_law 178 = .ok (.iadd, 1) := by decide +kernel
theorem dL_law_179 : decode cL_law 179 = .ok (.iaload, 1) := by decide +kernel
theorem dL_law_180 : decode cL_law 180 = .ok (.aload_n 0, 1) := by decide +kernel
theorem dL_law_181 : decode cL_law 181 = .ok (.iload 4, 2) := by decide +kernel
theorem dL_law_183 : decode cL_law 183 = .ok (.iconst 5, 1) := by decide +kernel
theorem dL_law_184 : decode cL_law 184 = .ok (.iadd, 1) := by decide +kernel
theorem dL_law_185 : decode cL_law 185 = .ok (.iaload, 1) := by decide +kernel
theorem dL_law_186 : decode cL_law 186 = .ok (.invokevirtual 25, 3) := by decide +kernel
theorem dL_law_189 : decode cL_law 189 = .ok (.pop, 1) := by decide +kernel
theorem dL_law_19 : decode cL_law 19 = .ok (.astore_n 3, 1) := by decide +kernel
theorem dL_law_190 : decode cL_law 190 = .ok (.goto 445, 3) := by decide +kernel
theorem dL_law_193 : decode cL_law 193 = .ok (.aload_n 1, 1) := by decide +kernel
theorem dL_law_194 : decode cL_law 194 = .ok (.aload_n 0, 1) := by decide +kernel
theorem dL_law_195 : decode cL_law 195 = .ok (.iload 4, 2) := by decide +kernel
theorem dL_law_197 : decode cL_law 197 = .ok (.iconst 1, 1) := by decide +kernel
theorem dL_law_198 : decode cL_law 198 = .ok (.iadd, 1) := by decide +kernel
theorem dL_law_199 : decode cL_law 199 = .ok (.iaload, 1) := by decide +kernel
theorem dL_law_20 : decode cL_law 20 = .ok (.iconst 0, 1) := by decide +kernel
theorem dL_law_200 : decode cL_law 200 = .ok (.invokevirtual 26, 3) := by decide +kernel
theorem dL_law_203 : decode cL_law 203 = .ok (.aload_n 2, 1) := by decide +kernel
theorem dL_law_204 : decode cL_law 204 = .ok (.aload_n 0, 1) := by decide +kernel
theorem dL_law_205 : decode cL_law 205 = .ok (.iload 4, 2) := by decide +kernel
theorem dL_law_207 : decode cL_law 207 = .ok (.iconst 1, 1) := by decide +kernel
theorem dL_law_208 : decode cL_law 208 = .ok (.iadd, 1) := by decide +kernel
theorem dL_law_209 : decode cL_law 209 = .ok (.iaload, 1) := by decide +kernel
theorem dL_law_21 : decode cL_law 21 = .ok (.istore 4, 2) := by decide +kernel
theorem dL_law_210 : decode cL_law 210 = .ok (.invokevirtual 30, 3) := by decide +kernel
theorem dL_law_213 : decode cL_law 213 = .ok (.if_icmp .eq 422, 3) := by decide +kernel
theorem dL_law_216 : decode cL_law 216 = .ok (.iconst 0, 1) := by decide +kernel
theorem dL_law_217 : decode cL_law 217 = .ok (.ireturn, 1) := by decide +kernel
theorem dL_law_218 : decode cL_law 218 = .ok (.aload_n 1, 1) := by decide +kernel
theorem dL_law_219 : decode cL_law 219 = .ok (.aload_n 0, 1) := by decide +kernel
theorem dL_law_220 : decode cL_law 220 = .ok (.iload 4, 2) := by decide +kernel
theorem dL_law_222 : decode cL_law 222 = .ok (.iconst 1, 1) := by decide +kernel
theorem dL_law_223 : decode cL_law 223 = .ok (.iadd, 1) := by decide +kernel
theorem dL_law_224 : decode cL_law 224 = .ok (.iaload, 1) := by decide +kernel
theorem dL_law_225 : decode cL_law 225 = .ok (.invokevirtual 31, 3) := by decide +kernel
theorem dL_law_228 : decode cL_law 228 = .ok (.pop, 1) := by decide +kernel
theorem dL_law_229 : decode cL_law 229 = .ok (.aload_n 2, 1) := by decide +kernel
theorem dL_law_23 : decode cL_law 23 = .ok (.iload 4, 2) := by decide +kernel
theorem dL_law_230 : decode cL_law 230 = .ok (.aload_n 0, 1) := by decide +kernel
theorem dL_law_231 : decode cL_law 231 = .ok (.iload 4, 2) := by decide +kernel
theorem dL_law_233 : decode cL_law 233 = .ok (.iconst 1, 1) := by decide +kernel
theorem dL_law_234 : decode cL_law 234 = .ok (.iadd, 1) := by decide +kernel
theorem dL_law_235 : decode cL_law 235 = .ok (.iaload, 1) := by decide +kernel
theorem dL_law_236 : decode cL_law 236 = .ok (.invokevirtual 34, 3) := by decide +kernel
theorem dL_law_239 : decode cL_law 239 = .ok (.pop, 1) := by decide +kernel
theorem dL_law_240 : decode cL_law 240 = .ok (.goto 395, 3) := by decide +kernel
theorem dL_law_243 : decode cL_law 243 = .ok (.aload_n 1, 1) := by decide +kernel
theorem dL_law_244 : decode cL_law 244 = .ok (.aload_n 0, 1) := by decide +kernel
theorem dL_law_245 : decode cL_law 245 = .ok (.iload 4, 2) := by decide +kernel
theorem dL_law_247 : decode cL_law 247 = .ok (.iconst 1, 1) := by decide +kernel
theorem dL_law_248 : decode cL_law 248 = .ok (.iadd, 1) := by decide +kernel
theorem dL_law_249 : decode cL_law 249 = .ok (.iaload, 1) := by decide +kernel
theorem dL_law_25 : decode cL_law 25 = .ok (.aload_n 0, 1) := by decide +kernel
theorem dL_law_250 : decode cL_law 250 = .ok (.aload_n 0, 1) := by decide +kernel
theorem dL_law_251 : decode cL_law 251 = .ok (.iload 4, 2) := by decide +kernel
theorem dL_law_253 : decode cL_law 253 = .ok (.iconst 2, 1) := by decide +kernel
theorem dL_law_254 : decode cL_law 254 = .ok (.iadd, 1) := by decide +kernel
theorem dL_law_255 : decode cL_law 255 = .ok (.iaload, 1) := by decide +kernel
theorem dL_law_256 : decode cL_law 256 = .ok (.aload_n 3, 1) := by decide +kernel
theorem dL_law_257 : decode cL_law 257 = .ok (.invokestatic 35, 3) := by decide +kernel
theorem dL_law_26 : decode cL_law 26 = .ok (.arraylength, 1) := by decide +kernel
theorem dL_law_260 : decode cL_law 260 = .ok (.istore 5, 2) := by decide +kernel
theorem dL_law_262 : decode cL_law 262 = .ok (.aload_n 2, 1) := by decide +kernel
theorem dL_law_263 : decode cL_law 263 = .ok (.aload_n 0, 1) := by decide +kernel
theorem dL_law_264 : decode cL_law 264 = .ok (.iload 4, 2) := by decide +kernel
theorem dL_law_266 : decode cL_law 266 = .ok (.iconst 1, 1) := by decide +kernel
theorem dL_law_267 : decode cL_law 267 = .ok (.iadd, 1) := by decide +kernel
theorem dL_law_268 : decode cL_law 268 = .ok (.iaload, 1) := by decide +kernel
theorem dL_law_269 : decode cL_law 269 = .ok (.aload_n 0, 1) := by decide +kernel
theorem dL_law_27 : decode cL_law 27 = .ok (.bipush 6, 2) := by decide +kernel
theorem dL_law_270 : decode cL_law 270 = .ok (.iload 4, 2) := by decide +kernel
theorem dL_law_272 : decode cL_law 272 = .ok (.iconst 2, 1) := by decide +kernel
theorem dL_law_273 : decode cL_law 273 = .ok (.iadd, 1) := by decide +kernel
theorem dL_law_274 : decode cL_law 274 = .ok (.iaload, 1) := by decide +kernel
theorem dL_law_275 : decode cL_law 275 = .ok (.invokevirtual 40, 3) := by decide +kernel
theorem dL_law_278 : decode cL_law 278 = .ok (.istore 6, 2) := by decide +kernel
theorem dL_law_280 : decode cL_law 280 = .ok (.goto 355, 3) := by decide +kernel
theorem dL_law_283 : decode cL_law 283 = .ok (.aload_n 1, 1) := by decide +kernel
theorem dL_law_284 : decode cL_law 284 = .ok (.aload_n 0, 1) := by decide +kernel
theorem dL_law_285 : decode cL_law 285 = .ok (.iload 4, 2) := by decide +kernel
theorem dL_law_287 : decode cL_law 287 = .ok (.iconst 1, 1) := by decide +kernel
theorem dL_law_288 : decode cL_law 288 = .ok (.iadd, 1) := by decide +kernel
theorem dL_law_289 : decode cL_law 289 = .ok (.iaload, 1) := by decide +kernel
theorem dL_law_29 : decode cL_law 29 = .ok (.isub, 1) := by decide +kernel
theorem dL_law_290 : decode cL_law 290 = .ok (.aload_n 0, 1) := by decide +kernel
theorem dL_law_291 : decode cL_law 291 = .ok (.iload 4, 2) := by decide +kernel
theorem dL_law_293 : decode cL_law 293 = .ok (.iconst 2, 1) := by decide +kernel
theorem dL_law_294 : decode cL_law 294 = .ok (.iadd, 1) := by decide +kernel
theorem dL_law_295 : decode cL_law 295 = .ok (.iaload, 1) := by decide +kernel
theorem dL_law_296 : decode cL_law 296 = .ok (.ifCond .eq 7, 3) := by decide +kernel
theorem dL_law_299 : decode cL_law 299 = .ok (.iconst 1, 1) := by decide +kernel
theorem dL_law_3 : decode cL_law 3 = .ok (.dup, 1) := by decide +kernel
theorem dL_law_30 : decode cL_law 30 = .ok (.if_icmp .gt 611, 3) := by decide +kernel
theorem dL_law_300 : decode cL_law 300 = .ok (.goto 4, 3) := by decide +kernel
theorem dL_law_303 : decode cL_law 303 = .ok (.iconst 0, 1) := by decide +kernel
theorem dL_law_304 : decode cL_law 304 = .ok (.invokevirtual 41, 3) := by decide +kernel
theorem dL_law_307 : decode cL_law 307 = .ok (.pop, 1) := by decide +kernel
theorem dL_law_308 : decode cL_law 308 = .ok (.aload_n 2, 1) := by decide +kernel
theorem dL_law_309 : decode cL_law 309 = .ok (.aload_n 0, 1) := by decide +kernel
theorem dL_law_310 : decode cL_law 310 = .ok (.iload 4, 2) := by decide +kernel
theorem dL_law_312 : decode cL_law 312 = .ok (.iconst 1, 1) := by decide +kernel
theorem dL_law_313 : decode cL_law 313 = .ok (.iadd, 1) := by decide +kernel
theorem dL_law_314 : decode cL_law 314 = .ok (.iaload, 1) := by decide +kernel
theorem dL_law_315 : decode cL_law 315 = .ok (.aload_n 0, 1) := by decide +kernel
theorem dL_law_316 : decode cL_law 316 = .ok (.iload 4, 2) := by decide +kernel
theorem dL_law_318 : decode cL_law 318 = .ok (.iconst 2, 1) := by decide +kernel
theorem dL_law_319 : decode cL_law 319 = .ok (.iadd, 1) := by decide +kernel
theorem dL_law_320 : decode cL_law 320 = .ok (.iaload, 1) := by decide +kernel
theorem dL_law_321 : decode cL_law 321 = .ok (.ifCond .eq 7, 3) := by decide +kernel
theorem dL_law_324 : decode cL_law 324 = .ok (.iconst 1, 1) := by decide +kernel
theorem dL_law_325 : decode cL_law 325 = .ok (.goto 4, 3) := by decide +kernel
theorem dL_law_328 : decode cL_law 328 = .ok (.iconst 0, 1) := by decide +kernel
theorem dL_law_329 : decode cL_law 329 = .ok (.invokevirtual 45, 3) := by decide +kernel
theorem dL_law_33 : decode cL_law 33 = .ok (.aload_n 0, 1) := by decide +kernel
theorem dL_law_332 : decode cL_law 332 = .ok (.pop, 1) := by decide +kernel
theorem dL_law_333 : decode cL_law 333 = .ok (.goto 302, 3) := by decide +kernel
theorem dL_law_336 : decode cL_law 336 = .ok (.aload_n 1, 1) := by decide +kernel
theorem dL_law_337 : decode cL_law 337 = .ok (.aload_n 0, 1) := by decide +kernel
theorem dL_law_338 : decode cL_law 338 = .ok (.iload 4, 2) := by decide +kernel
theorem dL_law_34 : decode cL_law 34 = .ok (.iload 4, 2) := by decide +kernel
theorem dL_law_340 : decode cL_law 340 = .ok (.iconst 1, 1) := by decide +kernel
theorem dL_law_341 : decode cL_law 341 = .ok (.iadd, 1) := by decide +kernel
theorem dL_law_342 : decode cL_law 342 = .ok (.iaload, 1) := by decide +kernel
theorem dL_law_343 : decode cL_law 343 = .ok (.invokevirtual 46, 3) := by decide +kernel
theorem dL_law_346 : decode cL_law 346 = .ok (.pop, 1) := by decide +kernel
theorem dL_law_347 : decode cL_law 347 = .ok (.aload_n 2, 1) := by decide +kernel
theorem dL_law_348 : decode cL_law 348 = .ok (.aload_n 0, 1) := by decide +kernel
theorem dL_law_349 : decode cL_law 349 = .ok (.iload 4, 2) := by decide +kernel
theorem dL_law_351 : decode cL_law 351 = .ok (.iconst 1, 1) := by decide +kernel
theorem dL_law_352 : decode cL_law 352 = .ok (.iadd, 1) := by decide +kernel
theorem dL_law_353 : decode cL_law 353 = .ok (.iaload, 1) := by decide +kernel
theorem dL_law_354 : decode cL_law 354 = .ok (.invokevirtual 49, 3) := by decide +kernel
theorem dL_law_357 : decode cL_law 357 = .ok (.pop, 1) := by decide +kernel
theorem dL_law_358 : decode cL_law 358 = .ok (.goto 277, 3) := by decide +kernel
theorem dL_law_36 : decode cL_law 36 = .ok (.iaload, 1) := by decide +kernel
theorem dL_law_361 : decode cL_law 361 = .ok (.aload_n 1, 1) := by decide +kernel
theorem dL_law_362 : decode cL_law 362 = .ok (.aload_n 0, 1) := by decide +kernel
theorem dL_law_363 : decode cL_law 363 = .ok (.iload 4, 2) := by decide +kernel
theorem dL_law_365 : decode cL_law 365 = .ok (.iconst 1, 1) := by decide +kernel
theorem dL_law_366 : decode cL_law 366 = .ok (.iadd, 1) := by decide +kernel
theorem dL_law_367 : decode cL_law 367 = .ok (.iaload, 1) := by decide +kernel
theorem dL_law_368 : decode cL_law 368 = .ok (.invokevirtual 50, 3) := by decide +kernel
theorem dL_law_37 : decode cL_law 37 = .ok (.bipush 15, 2) := by decide +kernel
theorem dL_law_371 : decode cL_law 371 = .ok (.pop, 1) := by decide +kernel
theorem dL_law_372 : decode cL_law 372 = .ok (.aload_n 2, 1) := by decide +kernel
theorem dL_law_373 : decode cL_law 373 = .ok (.aload_n 0, 1) := by decide +kernel
theorem dL_law_374 : decode cL_law 374 = .ok (.iload 4, 2) := by decide +kernel
theorem dL_law_376 : decode cL_law 376 = .ok (.iconst 1, 1) := by decide +kernel
theorem dL_law_377 : decode cL_law 377 = .ok (.iadd, 1) := by decide +kernel
theorem dL_law_378 : decode cL_law 378 = .ok (.iaload, 1) := by decide +kernel
theorem dL_law_379 : decode cL_law 379 = .ok (.invokevirtual 53, 3) := by decide +kernel
theorem dL_law_382 : decode cL_law 382 = .ok (.pop, 1) := by decide +kernel
theorem dL_law_383 : decode cL_law 383 = .ok (.goto 252, 3) := by decide +kernel
theorem dL_law_386 : decode cL_law 386 = .ok (.aload_n 1, 1) := by decide +kernel
theorem dL_law_387 : decode cL_law 387 = .ok (.aload_n 0, 1) := by decide +kernel
theorem dL_law_388 : decode cL_law 388 = .ok (.iload 4, 2) := by decide +kernel
theorem dL_law_39 : decode cL_law 39 = .ok (.iand, 1) := by decide +kernel
theorem dL_law_390 : decode cL_law 390 = .ok (.iconst 1, 1) := by decide +kernel
theorem dL_law_391 : decode cL_law 391 = .ok (.iadd, 1) := by decide +kernel
theorem dL_law_392 : decode cL_law 392 = .ok (.iaload, 1) := by decide +kernel
theorem dL_law_393 : decode cL_law 393 = .ok (.invokevirtual 54, 3) := by decide +kernel
theorem dL_law_396 : decode cL_law 396 = .ok (.pop, 1) := by decide +kernel
theorem dL_law_397 : decode cL_law 397 = .ok (.aload_n 2, 1) := by decide +kernel
theorem dL_law_398 : decode cL_law 398 = .ok (.aload_n 0, 1) := by decide +kernel
theorem dL_law_399 : decode cL_law 399 = .ok (.iload 4, 2) := by decide +kernel
theorem dL_law_4 : decode cL_law 4 = .ok (.invokespecial 17, 3) := by decide +kernel
theorem dL_law_40 : decode cL_law 40 = .ok (.tableswitch 595 0 15 #[80, 153, 178, 203, 243, 296, 321, 346, 371, 396, 433, 458, 483, 508, 545, 570], 80) := by decide +kernel
theorem dL_law_401 : decode cL_law 401 = .ok (.iconst 1, 1) := by decide +kernel
theorem dL_law_402 : decode cL_law 402 = .ok (.iadd, 1) := by decide +kernel
theorem dL_law_403 : decode cL_law 403 = .ok (.iaload, 1) := by decide +kernel
theorem dL_law_404 : decode cL_law 404 = .ok (.invokevirtual 57, 3) := by decide +kernel
theorem dL_law_407 : decode cL_law 407 = .ok (.pop, 1) := by decide +kernel
theorem dL_law_408 : decode cL_law 408 = .ok (.goto 227, 3) := by decide +kernel
theorem dL_law_411 : decode cL_law 411 = .ok (.aload_n 1, 1) := by decide +kernel
theorem dL_law_412 : decode cL_law 412 = .ok (.aload_n 0, 1) := by decide +kernel
theorem dL_law_413 : decode cL_law 413 = .ok (.iload 4, 2) := by decide +kernel
theorem dL_law_415 : decode cL_law 415 = .ok (.iconst 1, 1) := by decide +kernel
theorem dL_law_416 : decode cL_law 416 = .ok (.iadd, 1) := by decide +kernel
theorem dL_law_417 : decode cL_law 417 = .ok (.iaload, 1) := by decide +kernel
theorem dL_law_418 : decode cL_law 418 = .ok (.invokevirtual 58, 3) := by decide +kernel
theorem dL_law_421 : decode cL_law 421 = .ok (.pop, 1) := by decide +kernel
theorem dL_law_422 : decode cL_law 422 = .ok (.aload_n 2, 1) := by decide +kernel
theorem dL_law_423 : decode cL_law 423 = .ok (.aload_n 0, 1) := by decide +kernel
theorem dL_law_424 : decode cL_law 424 = .ok (.iload 4, 2) := by decide +kernel
theorem dL_law_426 : decode cL_law 426 = .ok (.iconst 1, 1) := by decide +kernel
theorem dL_law_427 : decode cL_law 427 = .ok (.iadd, 1) := by decide +kernel
theorem dL_law_428 : decode cL_law 428 = .ok (.iaload, 1) := by decide +kernel
theorem dL_law_429 : decode cL_law 429 = .ok (.invokevirtual 61, 3) := by decide +kernel
theorem dL_law_432 : decode cL_law 432 = .ok (.pop, 1) := by decide +kernel
theorem dL_law_433 : decode cL_law 433 = .ok (.goto 202, 3) := by decide +kernel
theorem dL_law_436 : decode cL_law 436 = .ok (.aload_n 1, 1) := by decide +kernel
theorem dL_law_437 : decode cL_law 437 = .ok (.aload_n 0, 1) := by decide +kernel
theorem dL_law_438 : decode cL_law 438 = .ok (.iload 4, 2) := by decide +kernel
theorem dL_law_440 : decode cL_law 440 = .ok (.iconst 1, 1) := by decide +kernel
theorem dL_law_441 : decode cL_law 441 = .ok (.iadd, 1) := by decide +kernel
theorem dL_law_442 : decode cL_law 442 = .ok (.iaload, 1) := by decide +kernel
theorem dL_law_443 : decode cL_law 443 = .ok (.aload_n 0, 1) := by decide +kernel
theorem dL_law_444 : decode cL_law 444 = .ok (.iload 4, 2) := by decide +kernel
theorem dL_law_446 : decode cL_law 446 = .ok (.iconst 2, 1) := by decide +kernel
theorem dL_law_447 : decode cL_law 447 = .ok (.iadd, 1) := by decide +kernel
theorem dL_law_448 : decode cL_law 448 = .ok (.iaload, 1) := by decide +kernel
theorem dL_law_449 : decode cL_law 449 = .ok (.invokevirtual 62, 3) := by decide +kernel
theorem dL_law_452 : decode cL_law 452 = .ok (.pop, 1) := by decide +kernel
theorem dL_law_453 : decode cL_law 453 = .ok (.aload_n 2, 1) := by decide +kernel
theorem dL_law_454 : decode cL_law 454 = .ok (.aload_n 0, 1) := by decide +kernel
theorem dL_law_455 : decode cL_law 455 = .ok (.iload 4, 2) := by decide +kernel
theorem dL_law_457 : decode cL_law 457 = .ok (.iconst 1, 1) := by decide +kernel
theorem dL_law_458 : decode cL_law 458 = .ok (.iadd, 1) := by decide +kernel
theorem dL_law_459 : decode cL_law 459 = .ok (.iaload, 1) := by decide +kernel
theorem dL_law_460 : decode cL_law 460 = .ok (.aload_n 0, 1) := by decide +kernel
theorem dL_law_461 : decode cL_law 461 = .ok (.iload 4, 2) := by decide +kernel
theorem dL_law_463 : decode cL_law 463 = .ok (.iconst 2, 1) := by decide +kernel
theorem dL_law_464 : decode cL_law 464 = .ok (.iadd, 1) := by decide +kernel
theorem dL_law_465 : decode cL_law 465 = .ok (.iaload, 1) := by decide +kernel
theorem dL_law_466 : decode cL_law 466 = .ok (.invokevirtual 65, 3) := by decide +kernel
theorem dL_law_469 : decode cL_law 469 = .ok (.pop, 1) := by decide +kernel
theorem dL_law_470 : decode cL_law 470 = .ok (.goto 165, 3) := by decide +kernel
theorem dL_law_473 : decode cL_law 473 = .ok (.aload_n 1, 1) := by decide +kernel
theorem dL_law_474 : decode cL_law 474 = .ok (.aload_n 0, 1) := by decide +kernel
theorem dL_law_475 : decode cL_law 475 = .ok (.iload 4, 2) := by decide +kernel
theorem dL_law_477 : decode cL_law 477 = .ok (.iconst 1, 1) := by decide +kernel
theorem dL_law_478 : decode cL_law 478 = .ok (.iadd, 1) := by decide +kernel
theorem dL_law_479 : decode cL_law 479 = .ok (.iaload, 1) := by decide +kernel
theorem dL_law_480 : decode cL_law 480 = .ok (.invokevirtual 66, 3) := by decide +kernel
theorem dL_law_483 : decode cL_law 483 = .ok (.pop, 1) := by decide +kernel
theorem dL_law_484 : decode cL_law 484 = .ok (.aload_n 2, 1) := by decide +kernel
theorem dL_law_485 : decode cL_law 485 = .ok (.aload_n 0, 1) := by decide +kernel
theorem dL_law_486 : decode cL_law 486 = .ok (.iload 4, 2) := by decide +kernel
theorem dL_law_488 : decode cL_law 488 = .ok (.iconst 1, 1) := by decide +kernel
theorem dL_law_489 : decode cL_law 489 = .ok (.iadd, 1) := by decide +kernel
theorem dL_law_490 : decode cL_law 490 = .ok (.iaload, 1) := by decide +kernel
theorem dL_law_491 : decode cL_law 491 = .ok (.invokevirtual 69, 3) := by decide +kernel
theorem dL_law_494 : decode cL_law 494 = .ok (.pop, 1) := by decide +kernel
theorem dL_law_495 : decode cL_law 495 = .ok (.goto 140, 3) := by decide +kernel
theorem dL_law_498 : decode cL_law 498 = .ok (.aload_n 1, 1) := by decide +kernel
theorem dL_law_499 : decode cL_law 499 = .ok (.aload_n 0, 1) := by decide +kernel
theorem dL_law_500 : decode cL_law 500 = .ok (.iload 4, 2) := by decide +kernel
theorem dL_law_502 : decode cL_law 502 = .ok (.iconst 1, 1) := by decide +kernel
theorem dL_law_503 : decode cL_law 503 = .ok (.iadd, 1) := by decide +kernel
theorem dL_law_504 : decode cL_law 504 = .ok (.iaload, 1) := by decide +kernel
theorem dL_law_505 : decode cL_law 505 = .ok (.invokevirtual 70, 3) := by decide +kernel
theorem dL_law_508 : decode cL_law 508 = .ok (.pop, 1) := by decide +kernel
theorem dL_law_509 : decode cL_law 509 = .ok (.aload_n 2, 1) := by decide +kernel
theorem dL_law_510 : decode cL_law 510 = .ok (.aload_n 0, 1) := by decide +kernel
theorem dL_law_511 : decode cL_law 511 = .ok (.iload 4, 2) := by decide +kernel
theorem dL_law_513 : decode cL_law 513 = .ok (.iconst 1, 1) := by decide +kernel
theorem dL_law_514 : decode cL_law 514 = .ok (.iadd, 1) := by decide +kernel
theorem dL_law_515 : decode cL_law 515 = .ok (.iaload, 1) := by decide +kernel
theorem dL_law_516 : decode cL_law 516 = .ok (.invokevirtual 73, 3) := by decide +kernel
theorem dL_law_519 : decode cL_law 519 = .ok (.pop, 1) := by decide +kernel
theorem dL_law_520 : decode cL_law 520 = .ok (.goto 115, 3) := by decide +kernel
theorem dL_law_523 : decode cL_law 523 = .ok (.aload_n 1, 1) := by decide +kernel
theorem dL_law_524 : decode cL_law 524 = .ok (.aload_n 0, 1) := by decide +kernel
theorem dL_law_525 : decode cL_law 525 = .ok (.iload 4, 2) := by decide +kernel
theorem dL_law_527 : decode cL_law 527 = .ok (.iconst 1, 1) := by decide +kernel
theorem dL_law_528 : decode cL_law 528 = .ok (.iadd, 1) := by decide +kernel
theorem dL_law_529 : decode cL_law 529 = .ok (.iaload, 1) := by decide +kernel
theorem dL_law_530 : decode cL_law 530 = .ok (.invokevirtual 74, 3) := by decide +kernel
theorem dL_law_533 : decode cL_law 533 = .ok (.pop, 1) := by decide +kernel
theorem dL_law_534 : decode cL_law 534 = .ok (.aload_n 2, 1) := by decide +kernel
theorem dL_law_535 : decode cL_law 535 = .ok (.aload_n 0, 1) := by decide +kernel
theorem dL_law_536 : decode cL_law 536 = .ok (.iload 4, 2) := by decide +kernel
theorem dL_law_538 : decode cL_law 538 = .ok (.iconst 1, 1) := by decide +kernel
theorem dL_law_539 : decode cL_law 539 = .ok (.iadd, 1) := by decide +kernel
theorem dL_law_540 : decode cL_law 540 = .ok (.iaload, 1) := by decide +kernel
theorem dL_law_541 : decode cL_law 541 = .ok (.invokevirtual 77, 3) := by decide +kernel
theorem dL_law_544 : decode cL_law 544 = .ok (.pop, 1) := by decide +kernel
theorem dL_law_545 : decode cL_law 545 = .ok (.goto 90, 3) := by decide +kernel
theorem dL_law_548 : decode cL_law 548 = .ok (.aload_n 1, 1) := by decide +kernel
theorem dL_law_549 : decode cL_law 549 = .ok (.aload_n 0, 1) := by decide +kernel
theorem dL_law_550 : decode cL_law 550 = .ok (.iload 4, 2) := by decide +kernel
theorem dL_law_552 : decode cL_law 552 = .ok (.iconst 1, 1) := by decide +kernel
theorem dL_law_553 : decode cL_law 553 = .ok (.iadd, 1) := by decide +kernel
theorem dL_law_554 : decode cL_law 554 = .ok (.iaload, 1) := by decide +kernel
theorem dL_law_555 : decode cL_law 555 = .ok (.aload_n 0, 1) := by decide +kernel
theorem dL_law_556 : decode cL_law 556 = .ok (.iload 4, 2) := by decide +kernel
theorem dL_law_558 : decode cL_law 558 = .ok (.iconst 2, 1) := by decide +kernel
theorem dL_law_559 : decode cL_law 559 = .ok (.iadd, 1) := by decide +kernel
theorem dL_law_560 : decode cL_law 560 = .ok (.iaload, 1) := by decide +kernel
theorem dL_law_561 : decode cL_law 561 = .ok (.invokevirtual 78, 3) := by decide +kernel
theorem dL_law_564 : decode cL_law 564 = .ok (.pop, 1) := by decide +kernel
theorem dL_law_565 : decode cL_law 565 = .ok (.aload_n 2, 1) := by decide +kernel
theorem dL_law_566 : decode cL_law 566 = .ok (.aload_n 0, 1) := by decide +kernel
theorem dL_law_567 : decode cL_law 567 = .ok (.iload 4, 2) := by decide +kernel
theorem dL_law_569 : decode cL_law 569 = .ok (.iconst 1, 1) := by decide +kernel
theorem dL_law_570 : decode cL_law 570 = .ok (.iadd, 1) := by decide +kernel
theorem dL_law_571 : decode cL_law 571 = .ok (.iaload, 1) := by decide +kernel
theorem dL_law_572 : decode cL_law 572 = .ok (.aload_n 0, 1) := by decide +kernel
theorem dL_law_573 : decode cL_law 573 = .ok (.iload 4, 2) := by decide +kernel
theorem dL_law_575 : decode cL_law 575 = .ok (.iconst 2, 1) := by decide +kernel
theorem dL_law_576 : decode cL_law 576 = .ok (.iadd, 1) := by decide +kernel
theorem dL_law_577 : decode cL_law 577 = .ok (.iaload, 1) := by decide +kernel
theorem dL_law_578 : decode cL_law 578 = .ok (.invokevirtual 81, 3) := by decide +kernel
theorem dL_law_581 : decode cL_law 581 = .ok (.pop, 1) := by decide +kernel
theorem dL_law_582 : decode cL_law 582 = .ok (.goto 53, 3) := by decide +kernel
theorem dL_law_585 : decode cL_law 585 = .ok (.aload_n 1, 1) := by decide +kernel
theorem dL_law_586 : decode cL_law 586 = .ok (.aload_n 0, 1) := by decide +kernel
theorem dL_law_587 : decode cL_law 587 = .ok (.iload 4, 2) := by decide +kernel
theorem dL_law_589 : decode cL_law 589 = .ok (.iconst 1, 1) := by decide +kernel
theorem dL_law_590 : decode cL_law 590 = .ok (.iadd, 1) := by decide +kernel
theorem dL_law_591 : decode cL_law 591 = .ok (.iaload, 1) := by decide +kernel
theorem dL_law_592 : decode cL_law 592 = .ok (.invokevirtual 82, 3) := by decide +kernel
theorem dL_law_595 : decode cL_law 595 = .ok (.pop, 1) := by decide +kernel
theorem dL_law_596 : decode cL_law 596 = .ok (.aload_n 2, 1) := by decide +kernel
theorem dL_law_597 : decode cL_law 597 = .ok (.aload_n 0, 1) := by decide +kernel
theorem dL_law_598 : decode cL_law 598 = .ok (.iload 4, 2) := by decide +kernel
theorem dL_law_600 : decode cL_law 600 = .ok (.iconst 1, 1) := by decide +kernel
theorem dL_law_601 : decode cL_law 601 = .ok (.iadd, 1) := by decide +kernel
theorem dL_law_602 : decode cL_law 602 = .ok (.iaload, 1) := by decide +kernel
theorem dL_law_603 : decode cL_law 603 = .ok (.invokevirtual 85, 3) := by decide +kernel
theorem dL_law_606 : decode cL_law 606 = .ok (.pop, 1) := by decide +kernel
theorem dL_law_607 : decode cL_law 607 = .ok (.goto 28, 3) := by decide +kernel
theorem dL_law_610 : decode cL_law 610 = .ok (.aload_n 1, 1) := by decide +kernel
theorem dL_law_611 : decode cL_law 611 = .ok (.aload_n 0, 1) := by decide +kernel
theorem dL_law_612 : decode cL_law 612 = .ok (.iload 4, 2) := by decide +kernel
theorem dL_law_614 : decode cL_law 614 = .ok (.iconst 1, 1) := by decide +kernel
theorem dL_law_615 : decode cL_law 615 = .ok (.iadd, 1) := by decide +kernel
theorem dL_law_616 : decode cL_law 616 = .ok (.iaload, 1) := by decide +kernel
theorem dL_law_617 : decode cL_law 617 = .ok (.invokevirtual 86, 3) := by decide +kernel
theorem dL_law_620 : decode cL_law 620 = .ok (.pop, 1) := by decide +kernel
theorem dL_law_621 : decode cL_law 621 = .ok (.aload_n 2, 1) := by decide +kernel
theorem dL_law_622 : decode cL_law 622 = .ok (.aload_n 0, 1) := by decide +kernel
theorem dL_law_623 : decode cL_law 623 = .ok (.iload 4, 2) := by decide +kernel
theorem dL_law_625 : decode cL_law 625 = .ok (.iconst 1, 1) := by decide +kernel
theorem dL_law_626 : decode cL_law 626 = .ok (.iadd, 1) := by decide +kernel
theorem dL_law_627 : decode cL_law 627 = .ok (.iaload, 1) := by decide +kernel
theorem dL_law_628 : decode cL_law 628 = .ok (.invokevirtual 89, 3) := by decide +kernel
theorem dL_law_631 : decode cL_law 631 = .ok (.pop, 1) := by decide +kernel
theorem dL_law_632 : decode cL_law 632 = .ok (.goto 3, 3) := by decide +kernel
theorem dL_law_635 : decode cL_law 635 = .ok (.iinc 4 6, 3) := by decide +kernel
theorem dL_law_638 : decode cL_law 638 = .ok (.goto (-615), 3) := by decide +kernel
theorem dL_law_641 : decode cL_law 641 = .ok (.iconst 1, 1) := by decide +kernel
theorem dL_law_642 : decode cL_law 642 = .ok (.ireturn, 1) := by decide +kernel
theorem dL_law_7 : decode cL_law 7 = .ok (.astore_n 1, 1) := by decide +kernel
theorem dL_law_8 : decode cL_law 8 = .ok (.new 18, 3) := by decide +kernel
def lt_tab : Nat → List Cond
  | 0 => k2_sels lw_privs
  | 1 => tables_1_1
  | 2 => tables_1_2
  | 3 => tables_1_3
  | 4 => tables_1_4
  | 5 => tables_1_5
  | _ => tables_1_6
theorem lt_in (t : Nat) : ∀ w ∈ lt_tab t, w ∈ lw_tbl := fun w h => by
  match t, h with
  | 0, h => exact List.mem_append_left _ h
  | 1, h => exact List.mem_append_right _ (List.mem_append_left _ h)
  | 2, h => exact List.mem_append_right _ (List.mem_append_right _ (List.mem_append_left _ h))
  | 3, h => exact List.mem_append_right _ (List.mem_append_right _ (List.mem_append_right _ (List.mem_append_left _ h)))
  | 4, h => exact List.mem_append_right _ (List.mem_append_right _ (List.mem_append_right _ (List.mem_append_right _ (List.mem_append_left _ h))))
  | 5, h => exact List.mem_append_right _ (List.mem_append_right _ (List.mem_append_right _ (List.mem_append_right _ (List.mem_append_right _ (List.mem_append_left _ h)))))
  | t + 6, h => exact List.mem_append_right _ (List.mem_append_right _ (List.mem_append_right _ (List.mem_append_right _ (List.mem_append_right _ (List.mem_append_right _ h)))))
theorem lt_at {w : Cond} (t i : Nat) (h : (lt_tab t)[i]? = some w) : w ∈ lw_tbl := lt_in t w (List.mem_of_getElem? h)
theorem goodIn_t (ws : List Cond) (ps : List (Nat × Nat)) (hp : ws = ps.filterMap (fun q => (lt_tab q.1)[q.2]?)) (h : ws.all goodWord = true) : GoodIn lw_tbl ws := by
  intro w hw
  have h1 := List.all_eq_true.mp h w hw
  rw [hp] at hw
  obtain ⟨q, -, hi⟩ := List.mem_filterMap.mp hw
  exact ⟨lt_at q.1 q.2 hi, good_of_word h1⟩
set_option maxRecDepth 20000 in
theorem hL_c0 : GoodIn lw_tbl wsX00 := goodIn_t _ [(1, 187), (1, 189), (1, 191)] rfl (by decide +kernel)
set_option maxRecDepth 20000 in
theorem hL_c1 : GoodIn lw_tbl wsX10 := goodIn_t _ [(1, 221), (1, 223), (1, 225), (1, 227), (1, 229), (1, 231), (1, 233)] rfl (by decide +kernel)
set_option maxRecDepth 20000 in
theorem hL_c2 : GoodIn lw_tbl wsX20 := goodIn_t _ [(1, 50), (1, 52), (1, 54), (1, 56), (1, 58), (1, 60)] rfl (by decide +kernel)
set_option maxRecDepth 20000 in
theorem hL_c3 : GoodIn lw_tbl wsX30 := goodIn_t _ [(2, 41), (2, 43), (2, 45), (2, 47), (2, 49), (2, 51)] rfl (by decide +kernel)
set_option maxRecDepth 20000 in
theorem hL_c4 : GoodIn lw_tbl wsX40 := goodIn_t _ [(1, 91), (1, 93), (1, 95), (1, 97), (1, 99), (1, 101), (1, 103)] rfl (by decide +kernel)
set_option maxRecDepth 20000 in
theorem hL_c5 : GoodIn lw_tbl wsX50 := goodIn_t _ [(2, 100), (2, 102), (2, 104), (2, 106), (2, 108), (2, 110), (2, 112), (2, 114), (2, 116), (2, 118), (2, 120), (2, 122), (2, 124)] rfl (by decide +kernel)
set_option maxRecDepth 20000 in
theorem hL_c6 : GoodIn lw_tbl wsX60 := goodIn_t _ [(2, 67), (2, 69), (2, 71), (2, 73), (2, 75), (2, 77)] rfl (by decide +kernel)
set_option maxRecDepth 20000 in
theorem hL_c7 : GoodIn lw_tbl wsX70 := goodIn_t _ [(2, 8), (2, 10), (2, 12), (2, 14), (2, 16), (2, 18), (2, 20), (2, 22), (2, 24), (2, 26)] rfl (by decide +kernel)
set_option maxRecDepth 20000 in
theorem hL_c8 : GoodIn lw_tbl wsX80 := goodIn_t _ [(1, 142), (1, 144), (1, 146), (1, 148), (1, 150), (1, 152), (1, 154), (1, 156), (1, 158), (1, 160), (1, 162), (1, 164), (1, 166), (1, 168), (1, 170), (1, 172)] rfl (by decide +kernel)
set_option maxRecDepth 20000 in
theorem hL_c9 : GoodIn lw_tbl wsX90 := goodIn_t _ [(2, 135), (2, 137), (2, 139), (2, 141), (2, 143), (2, 145), (2, 147), (2, 149)] rfl (by decide +kernel)
set_option maxRecDepth 20000 in
theorem hL_c10 : GoodIn lw_tbl wsX100 := goodIn_t _ [(5, 111), (5, 113), (5, 115), (5, 117), (5, 119), (5, 121), (5, 123), (5, 125), (5, 127), (5, 129), (5, 131), (5, 133), (5, 135), (5, 137), (5, 139), (5, 141), (5, 143), (5, 145), (5, 147), (5, 149), (5, 151), (5, 153), (5, 155), (5, 157), (5, 159), (5, 161), (5, 163), (5, 165), (5, 167), (5, 169), (5, 171), (5, 173), (5, 175), (5, 177), (5, 179), (5, 181), (5, 183), (5, 185), (5, 187), (5, 189), (5, 191), (5, 193), (5, 195), (5, 197), (5, 199), (5, 201), (5, 203), (5, 205), (5, 207), (5, 209), (5, 211), (5, 213), (5, 215), (5, 217), (5, 219), (5, 221), (5, 223), (5, 225), (5, 227), (5, 229), (5, 231), (5, 233), (5, 235), (5, 237), (5, 239), (6, 1)] rfl (by decide +kernel)
set_option maxRecDepth 20000 in
theorem hL_X10_best : GoodIn lw_tbl (wsV RL 69 RX10 yX10_best wsX10_best) := goodIn_app (goodIn_t _ [(6, 122), (6, 123), (6, 124), (1, 11)] rfl (by decide +kernel)) (goodIn_ca (goodIn_t _ [(6, 125), (5, 47), (5, 57), (5, 73), (6, 126), (6, 128), (0, 68), (1, 11), (6, 129), (5, 74)] rfl (by decide +kernel)) hL_c10)
set_option maxRecDepth 20000 in
theorem hL_X10_count : GoodIn lw_tbl (wsV RL 89 RX10 yX10_count wsX10_count) := goodIn_app (goodIn_t _ [(6, 153), (6, 154), (6, 155), (1, 11)] rfl (by decide +kernel)) (goodIn_ca (goodIn_t _ [(6, 156), (5, 47), (5, 57), (5, 65), (5, 67), (5, 69), (5, 75), (5, 71), (5, 72), (5, 76)] rfl (by decide +kernel)) hL_c10)
set_option maxRecDepth 20000 in
theorem hL_X10_fault : GoodIn lw_tbl (wsV RL 34 RX10 yX10_fault wsX10_fault) := goodIn_app (goodIn_t _ [(6, 74), (6, 75), (6, 76), (1, 11)] rfl (by decide +kernel)) (goodIn_ca (goodIn_t _ [(6, 77), (5, 47), (5, 48), (5, 49)] rfl (by decide +kernel)) hL_c10)
set_option maxRecDepth 20000 in
theorem hL_X10_feed : GoodIn lw_tbl (wsV RL 25 RX10 yX10_feed wsX10_feed) := goodIn_app (goodIn_t _ [(6, 4), (6, 5), (6, 6), (1, 11)] rfl (by decide +kernel)) (goodIn_ca (goodIn_t _ [(6, 7), (5, 47), (5, 46), (5, 45)] rfl (by decide +kernel)) hL_c10)
set_option maxRecDepth 20000 in
theorem hL_X10_knows : GoodIn lw_tbl (wsV RL 45 RX10 yX10_knows wsX10_knows) := goodIn_app (goodIn_t _ [(6, 86), (6, 87), (6, 88), (1, 11)] rfl (by decide +kernel)) (goodIn_ca (goodIn_t _ [(6, 89), (5, 47), (5, 72), (6, 90), (6, 92), (0, 65), (1, 11), (6, 93), (5, 71), (5, 33), (5, 35), (0, 47), (5, 36), (5, 57), (5, 74), (5, 73), (5, 109), (5, 37), (5, 39), (0, 48), (5, 40), (5, 70), (5, 41), (5, 43), (0, 49), (5, 44), (5, 62), (5, 65), (5, 66), (5, 68), (5, 10), (5, 11), (5, 12), (5, 17), (5, 19), (0, 43), (5, 20)] rfl (by decide +kernel)) hL_c10)
set_option maxRecDepth 20000 in
theorem hL_X10_least : GoodIn lw_tbl (wsV RL 77 RX10 yX10_least wsX10_least) := goodIn_app (goodIn_t _ [(6, 138), (6, 139), (6, 140), (1, 11)] rfl (by decide +kernel)) (goodIn_ca (goodIn_t _ [(6, 141), (5, 47), (5, 71), (5, 57), (5, 73), (5, 41), (5, 43), (0, 49), (1, 11), (5, 44), (5, 62), (5, 65), (5, 66), (5, 68), (5, 10), (5, 11), (5, 12), (5, 17), (5, 19), (0, 43), (5, 20)] rfl (by decide +kernel)) hL_c10)
set_option maxRecDepth 20000 in
theorem hL_X10_length : GoodIn lw_tbl (wsV RL 57 RX10 yX10_length wsX10_length) := goodIn_app (goodIn_t _ [(6, 106), (6, 107), (6, 108), (1, 11)] rfl (by decide +kernel)) (goodIn_ca (goodIn_t _ [(6, 109), (5, 47), (5, 73), (6, 110), (6, 112), (0, 67), (1, 11), (6, 113), (6, 102), (6, 104), (0, 66), (6, 105), (5, 57)] rfl (by decide +kernel)) hL_c10)
set_option maxRecDepth 20000 in
theorem hL_X10_named : GoodIn lw_tbl (wsV RL 85 RX10 yX10_named wsX10_named) := goodIn_app (goodIn_t _ [(6, 149), (6, 150), (6, 151), (1, 11)] rfl (by decide +kernel)) (goodIn_ca (goodIn_t _ [(6, 152), (5, 47), (5, 108), (6, 110), (6, 112), (0, 67), (1, 11), (6, 113), (5, 73), (6, 102), (6, 104), (0, 66), (6, 105), (5, 57), (5, 13), (5, 15), (0, 42), (5, 16), (5, 107), (5, 50), (5, 51), (5, 52), (5, 106), (5, 55), (5, 53), (5, 54), (5, 17), (5, 19), (0, 43), (5, 20), (5, 66), (5, 65), (5, 10), (5, 11), (5, 12), (5, 21), (5, 23), (0, 44), (5, 24), (5, 60), (5, 25), (5, 27), (0, 45), (5, 28), (5, 56), (5, 29), (5, 31), (0, 46), (5, 32)] rfl (by decide +kernel)) hL_c10)
set_option maxRecDepth 20000 in
theorem hL_X10_ranked : GoodIn lw_tbl (wsV RL 73 RX10 yX10_ranked wsX10_ranked) := goodIn_app (goodIn_t _ [(6, 130), (6, 131), (6, 132), (1, 11)] rfl (by decide +kernel)) (goodIn_ca (goodIn_t _ [(6, 133), (5, 47), (5, 75), (5, 109), (5, 110), (6, 134), (6, 136), (0, 69), (1, 11), (6, 137), (5, 57), (5, 73), (6, 126), (6, 128), (0, 68), (6, 129), (5, 74)] rfl (by decide +kernel)) hL_c10)
set_option maxRecDepth 20000 in
theorem hL_X10_sign : GoodIn lw_tbl (wsV RL 65 RX10 yX10_sign wsX10_sign) := goodIn_app (goodIn_t _ [(6, 118), (6, 119), (6, 120), (1, 11)] rfl (by decide +kernel)) (goodIn_ca (goodIn_t _ [(6, 121), (5, 47), (5, 73), (5, 106), (6, 110), (6, 112), (0, 67), (1, 11), (6, 113), (6, 102), (6, 104), (0, 66), (6, 105), (5, 57), (5, 13), (5, 15), (0, 42), (5, 16), (5, 107), (5, 108), (5, 50), (5, 51), (5, 52), (5, 55), (5, 53), (5, 54), (5, 17), (5, 19), (0, 43), (5, 20), (5, 66), (5, 65), (5, 10), (5, 11), (5, 12), (5, 21), (5, 23), (0, 44), (5, 24), (5, 60), (5, 25), (5, 27), (0, 45), (5, 28), (5, 56), (5, 29), (5, 31), (0, 46), (5, 32)] rfl (by decide +kernel)) hL_c10)
set_option maxRecDepth 20000 in
theorem hL_X10_sound : GoodIn lw_tbl (wsV RL 53 RX10 yX10_sound wsX10_sound) := goodIn_app (goodIn_t _ [(6, 98), (6, 99), (6, 100), (1, 11)] rfl (by decide +kernel)) (goodIn_ca (goodIn_t _ [(6, 101), (5, 47), (5, 73), (6, 102), (6, 104), (0, 66), (1, 11), (6, 105), (5, 57)] rfl (by decide +kernel)) hL_c10)
set_option maxRecDepth 20000 in
theorem hL_X10_text : GoodIn lw_tbl (wsV RL 30 RX10 yX10_text wsX10_text) := goodIn_app (goodIn_t _ [(6, 8), (6, 9), (6, 10), (1, 11)] rfl (by decide +kernel)) (goodIn_ca (goodIn_t _ [(6, 11), (5, 47), (5, 46), (5, 78), (5, 48), (5, 49), (5, 79), (5, 50), (5, 69), (5, 61), (5, 85), (5, 57), (5, 58), (5, 86), (5, 59), (5, 87), (5, 60), (5, 88), (5, 62), (5, 89), (5, 51), (5, 80), (5, 52), (5, 81), (5, 53), (5, 82), (5, 54), (5, 83), (5, 55), (5, 84), (5, 56), (5, 45), (5, 90), (5, 63), (5, 64), (5, 91), (5, 92), (5, 65), (5, 66), (5, 93), (5, 94), (5, 67), (5, 68), (5, 95), (5, 71), (5, 70), (5, 96), (5, 72), (6, 12), (6, 14), (0, 50), (1, 11), (6, 15), (5, 77), (5, 97), (6, 16), (6, 18), (0, 51), (6, 19), (6, 20), (6, 22), (0, 52), (6, 23), (6, 24), (6, 26), (0, 53), (6, 27), (5, 98), (5, 99), (5, 103), (5, 100), (5, 105), (5, 104), (6, 28), (6, 30), (0, 54), (6, 31), (5, 101), (5, 102), (6, 32), (6, 34), (0, 55), (6, 35), (6, 36), (6, 37), (6, 38), (6, 39), (6, 40), (6, 41), (6, 42), (6, 44), (0, 56), (6, 45), (6, 46), (6, 48), (0, 57), (6, 49), (6, 50), (6, 52), (0, 58), (6, 53), (6, 54), (6, 56), (0, 59), (6, 57), (6, 58), (6, 60), (0, 60), (6, 61), (6, 62), (6, 64), (0, 61), (6, 65), (6, 66), (6, 68), (0, 62), (6, 69), (6, 70), (6, 72), (0, 63), (6, 73), (5, 2), (5, 4), (0, 40), (5, 5), (5, 75), (5, 73), (5, 107), (5, 76), (5, 6), (5, 8), (0, 41), (5, 9), (5, 10), (5, 11), (5, 12), (5, 13), (5, 15), (0, 42), (5, 16), (5, 108), (5, 106), (5, 17), (5, 19), (0, 43), (5, 20), (5, 21), (5, 23), (0, 44), (5, 24), (5, 25), (5, 27), (0, 45), (5, 28), (5, 29), (5, 31), (0, 46), (5, 32), (5, 33), (5, 35), (0, 47), (5, 36), (5, 74), (5, 109), (5, 37), (5, 39), (0, 48), (5, 40), (5, 41), (5, 43), (0, 49), (5, 44)] rfl (by decide +kernel)) hL_c10)
set_option maxRecDepth 20000 in
theorem hL_X10_turned : GoodIn lw_tbl (wsV RL 81 RX10 yX10_turned wsX10_turned) := goodIn_app (goodIn_t _ [(6, 142), (6, 143), (6, 144), (1, 11)] rfl (by decide +kernel)) (goodIn_ca (goodIn_t _ [(6, 145), (5, 47), (5, 57), (5, 73), (6, 110), (6, 112), (0, 67), (1, 11), (6, 113), (6, 102), (6, 104), (0, 66), (6, 105), (5, 10), (5, 11), (5, 12), (6, 146), (6, 147), (6, 148), (6, 126), (6, 128), (0, 68), (6, 129), (5, 74)] rfl (by decide +kernel)) hL_c10)
set_option maxRecDepth 20000 in
theorem hL_X10_value : GoodIn lw_tbl (wsV RL 61 RX10 yX10_value wsX10_value) := goodIn_app (goodIn_t _ [(6, 114), (6, 115), (6, 116), (1, 11)] rfl (by decide +kernel)) (goodIn_ca (goodIn_t _ [(6, 117), (5, 47), (5, 74), (6, 110), (6, 112), (0, 67), (1, 11), (6, 113), (5, 73), (6, 102), (6, 104), (0, 66), (6, 105), (5, 57)] rfl (by decide +kernel)) hL_c10)
set_option maxRecDepth 20000 in
theorem hL_X10_weight : GoodIn lw_tbl (wsV RL 49 RX10 yX10_weight wsX10_weight) := goodIn_app (goodIn_t _ [(6, 94), (6, 95), (6, 96), (1, 11)] rfl (by decide +kernel)) (goodIn_ca (goodIn_t _ [(6, 97), (5, 47), (5, 72), (5, 70), (6, 90), (6, 92), (0, 65), (1, 11), (6, 93), (5, 71)] rfl (by decide +kernel)) hL_c10)
set_option maxRecDepth 20000 in
theorem hL_X9_best : GoodIn lw_tbl (wsV RL 66 RX9 yX9_best wsX9_best) := goodIn_app (goodIn_t _ [(4, 50), (4, 51), (4, 52), (1, 1)] rfl (by decide +kernel)) (goodIn_ca (goodIn_ca (goodIn_ca (goodIn_ca (goodIn_ca (goodIn_ca (goodIn_t _ [(4, 53), (2, 134), (4, 54), (4, 55), (4, 56), (1, 10), (4, 57), (2, 97), (2, 95), (2, 91), (2, 90), (4, 58), (4, 60), (0, 29), (4, 61), (2, 99), (2, 94), (2, 93), (4, 62), (4, 64), (0, 30), (4, 65), (2, 98), (2, 87), (1, 116), (2, 92), (1, 112), (1, 134), (1, 129), (1, 131), (2, 88), (2, 89), (4, 66), (4, 68), (0, 31), (4, 69), (1, 63), (4, 70), (4, 72), (0, 32), (4, 73), (1, 73), (1, 86), (1, 89), (1, 82), (4, 74), (3, 186), (1, 2), (3, 187), (4, 75), (4, 77), (0, 33), (4, 78), (4, 79), (4, 81), (0, 34), (4, 82), (4, 83), (4, 85), (0, 35), (4, 86), (4, 87), (3, 197), (3, 198), (1, 8), (3, 199), (2, 35), (1, 118), (1, 110), (1, 88), (1, 133), (1, 128), (3, 200), (3, 182), (3, 183), (1, 4), (3, 184), (1, 84), (3, 201), (3, 202), (1, 18), (3, 203), (3, 204), (3, 205), (3, 206), (3, 207), (3, 209), (0, 22), (3, 210), (2, 40), (2, 36), (2, 39), (2, 37), (2, 38), (4, 88), (3, 220), (3, 221), (3, 222), (1, 117), (1, 109), (1, 83), (3, 181), (4, 89), (3, 163), (3, 164), (1, 5), (3, 165), (1, 181), (3, 166), (3, 139), (3, 140), (3, 141), (3, 167), (3, 143), (3, 144), (3, 145), (1, 185), (3, 154), (3, 156), (0, 21), (3, 157), (4, 90), (4, 92), (0, 36), (4, 93), (4, 94), (4, 1), (1, 12), (4, 2), (2, 96), (4, 95), (4, 97), (0, 37), (4, 98), (4, 99), (4, 101), (0, 38), (4, 102)] rfl (by decide +kernel)) hL_c9) hL_c5) hL_c8) hL_c4) hL_c3) hL_c0)
set_option maxRecDepth 20000 in
theorem hL_X9_count : GoodIn lw_tbl (wsV RL 86 RX9 yX9_count wsX9_count) := goodIn_app (goodIn_t _ [(4, 136), (4, 137), (4, 138), (1, 1)] rfl (by decide +kernel)) (goodIn_ca (goodIn_ca (goodIn_ca (goodIn_ca (goodIn_ca (goodIn_ca (goodIn_t _ [(4, 139), (2, 129), (1, 114), (1, 121), (1, 123), (1, 125), (2, 134), (2, 130), (1, 184), (1, 186), (2, 132), (4, 140), (4, 141), (4, 142), (1, 10), (4, 143), (2, 97), (4, 62), (4, 64), (0, 30), (4, 65), (2, 98), (2, 87), (1, 116), (2, 90), (2, 91), (2, 92), (1, 112), (1, 134), (1, 129), (1, 131), (2, 88), (2, 93), (2, 95), (2, 89), (2, 94), (2, 99), (4, 66), (4, 68), (0, 31), (4, 69), (1, 63), (4, 70), (4, 72), (0, 32), (4, 73), (1, 73), (1, 86), (1, 89), (1, 82), (4, 74), (3, 186), (1, 2), (3, 187), (4, 75), (4, 77), (0, 33), (4, 78), (4, 79), (4, 81), (0, 34), (4, 82), (4, 83), (4, 85), (0, 35), (4, 86), (4, 87), (3, 197), (3, 198), (1, 8), (3, 199), (2, 35), (1, 118), (1, 110), (1, 88), (1, 133), (1, 128), (3, 200), (3, 182), (3, 183), (1, 4), (3, 184), (1, 84), (3, 201), (3, 202), (1, 18), (3, 203), (3, 204), (3, 205), (3, 206), (3, 207), (3, 209), (0, 22), (3, 210), (2, 40), (2, 36), (2, 39), (2, 37), (2, 38), (4, 88), (3, 220), (3, 221), (3, 222), (1, 117), (1, 109), (1, 83), (3, 181), (4, 89), (3, 163), (3, 164), (1, 5), (3, 165), (1, 181), (3, 166), (3, 139), (3, 140), (3, 141), (3, 167), (3, 143), (3, 144), (3, 145), (1, 185), (3, 154), (3, 156), (0, 21), (3, 157), (4, 90), (4, 92), (0, 36), (4, 93), (4, 94), (4, 1), (1, 12), (4, 2), (2, 96), (4, 95), (4, 97), (0, 37), (4, 98), (4, 99), (4, 101), (0, 38), (4, 102), (3, 192), (3, 193), (3, 194), (3, 195), (1, 115), (3, 196)] rfl (by decide +kernel)) hL_c9) hL_c8) hL_c0) hL_c5) hL_c4) hL_c3)
set_option maxRecDepth 20000 in
theorem hL_X9_fault : GoodIn lw_tbl (wsV RL 31 RX9 yX9_fault wsX9_fault) := goodIn_app (goodIn_t _ [(3, 130), (3, 131), (3, 132), (1, 1)] rfl (by decide +kernel)) (goodIn_ca (goodIn_ca (goodIn_t _ [(3, 133), (2, 131), (2, 0), (2, 2)] rfl (by decide +kernel)) hL_c9) hL_c7)
set_option maxRecDepth 20000 in
theorem hL_X9_feed : GoodIn lw_tbl (wsV RL 21 RX9 yX9_feed wsX9_feed) := goodIn_app (goodIn_t _ [(2, 152), (2, 153), (2, 154), (1, 1)] rfl (by decide +kernel)) (goodIn_ca (goodIn_t _ [(2, 155), (2, 128), (2, 156), (2, 158), (0, 0), (1, 1), (2, 159), (2, 127)] rfl (by decide +kernel)) hL_c9)
set_option maxRecDepth 20000 in
theorem hL_X9_knows : GoodIn lw_tbl (wsV RL 41 RX9 yX9_knows wsX9_knows) := goodIn_app (goodIn_t _ [(3, 134), (3, 135), (3, 136), (1, 1)] rfl (by decide +kernel)) (goodIn_ca (goodIn_ca (goodIn_ca (goodIn_t _ [(3, 137), (2, 130), (2, 134), (1, 182), (3, 138), (3, 139), (3, 140), (1, 5), (3, 141), (1, 181), (3, 142), (3, 143), (3, 144), (3, 145), (1, 185), (3, 146), (3, 147), (3, 148), (3, 149), (3, 150), (3, 151), (3, 152), (1, 10), (3, 153), (2, 98), (2, 99), (3, 154), (3, 156), (0, 21), (3, 157), (2, 97), (2, 92), (2, 93)] rfl (by decide +kernel)) hL_c9) hL_c0) hL_c5)
set_option maxRecDepth 20000 in
theorem hL_X9_least : GoodIn lw_tbl (wsV RL 74 RX9 yX9_least wsX9_least) := goodIn_app (goodIn_t _ [(4, 111), (4, 112), (4, 113), (1, 1)] rfl (by decide +kernel)) (goodIn_ca (goodIn_ca (goodIn_ca (goodIn_ca (goodIn_ca (goodIn_ca (goodIn_t _ [(4, 114), (2, 134), (4, 115), (4, 116), (4, 117), (1, 10), (4, 118), (2, 97), (2, 94), (2, 92), (2, 91), (4, 62), (4, 64), (0, 30), (4, 65), (2, 98), (2, 87), (1, 116), (2, 90), (1, 112), (1, 134), (1, 129), (1, 131), (2, 88), (2, 93), (2, 95), (2, 89), (2, 99), (4, 66), (4, 68), (0, 31), (4, 69), (1, 63), (4, 70), (4, 72), (0, 32), (4, 73), (1, 73), (1, 86), (1, 89), (1, 82), (4, 74), (3, 186), (1, 2), (3, 187), (4, 75), (4, 77), (0, 33), (4, 78), (4, 79), (4, 81), (0, 34), (4, 82), (4, 83), (4, 85), (0, 35), (4, 86), (4, 87), (3, 197), (3, 198), (1, 8), (3, 199), (2, 35), (1, 118), (1, 110), (1, 88), (1, 133), (1, 128), (3, 200), (3, 182), (3, 183), (1, 4), (3, 184), (1, 84), (3, 201), (3, 202), (1, 18), (3, 203), (3, 204), (3, 205), (3, 206), (3, 207), (3, 209), (0, 22), (3, 210), (2, 40), (2, 36), (2, 39), (2, 37), (2, 38), (4, 88), (3, 220), (3, 221), (3, 222), (1, 117), (1, 109), (1, 83), (3, 181), (4, 89), (3, 163), (3, 164), (1, 5), (3, 165), (1, 181), (3, 166), (3, 139), (3, 140), (3, 141), (3, 167), (3, 143), (3, 144), (3, 145), (1, 185), (3, 154), (3, 156), (0, 21), (3, 157), (4, 90), (4, 92), (0, 36), (4, 93), (4, 94), (4, 1), (1, 12), (4, 2), (2, 96), (4, 95), (4, 97), (0, 37), (4, 98), (4, 99), (4, 101), (0, 38), (4, 102)] rfl (by decide +kernel)) hL_c9) hL_c5) hL_c8) hL_c4) hL_c3) hL_c0)
set_option maxRecDepth 20000 in
theorem hL_X9_length : GoodIn lw_tbl (wsV RL 54 RX9 yX9_length wsX9_length) := goodIn_app (goodIn_t _ [(3, 188), (3, 189), (3, 190), (1, 1)] rfl (by decide +kernel)) (goodIn_ca (goodIn_ca (goodIn_ca (goodIn_ca (goodIn_t _ [(3, 191), (2, 129), (2, 132), (3, 176), (3, 177), (3, 178), (1, 2), (3, 179), (1, 113), (1, 109), (1, 74), (1, 132), (1, 130), (1, 127), (3, 180), (3, 173), (3, 174), (3, 175), (3, 181), (3, 182), (3, 183), (1, 4), (3, 184), (1, 84), (3, 185), (3, 186), (3, 187), (3, 192), (3, 193), (3, 194), (1, 8), (3, 195), (2, 35), (1, 115), (1, 110), (1, 88), (3, 196), (3, 197), (3, 198), (3, 199), (1, 118), (1, 133), (1, 128), (3, 200), (3, 201), (3, 202), (1, 18), (3, 203), (3, 204), (3, 205), (3, 206), (3, 207), (3, 209), (0, 22), (3, 210), (2, 40), (2, 36), (2, 39), (2, 37), (2, 38)] rfl (by decide +kernel)) hL_c9) hL_c8) hL_c4) hL_c3)
set_option maxRecDepth 20000 in
theorem hL_X9_named : GoodIn lw_tbl (wsV RL 82 RX9 yX9_named wsX9_named) := goodIn_app (goodIn_t _ [(4, 128), (4, 129), (4, 130), (1, 1)] rfl (by decide +kernel)) (goodIn_ca (goodIn_ca (goodIn_ca (goodIn_ca (goodIn_t _ [(4, 131), (2, 129), (2, 132), (3, 176), (3, 177), (3, 178), (1, 2), (3, 179), (1, 113), (1, 109), (1, 74), (1, 132), (1, 130), (1, 127), (3, 180), (3, 173), (3, 174), (3, 175), (3, 181), (3, 182), (3, 183), (1, 4), (3, 184), (1, 84), (3, 185), (3, 186), (3, 187), (4, 132), (4, 133), (4, 134), (1, 8), (4, 135), (3, 207), (3, 209), (0, 22), (3, 210), (2, 40), (2, 36), (2, 39), (2, 37), (2, 38)] rfl (by decide +kernel)) hL_c9) hL_c8) hL_c4) hL_c3)
set_option maxRecDepth 20000 in
theorem hL_X9_ranked : GoodIn lw_tbl (wsV RL 70 RX9 yX9_ranked wsX9_ranked) := goodIn_app (goodIn_t _ [(4, 103), (4, 104), (4, 105), (1, 1)] rfl (by decide +kernel)) (goodIn_ca (goodIn_ca (goodIn_ca (goodIn_ca (goodIn_ca (goodIn_ca (goodIn_t _ [(4, 106), (2, 134), (4, 107), (4, 108), (4, 109), (1, 10), (4, 110), (2, 95), (2, 90), (4, 58), (4, 60), (0, 29), (4, 61), (2, 99), (2, 94), (2, 93), (4, 62), (4, 64), (0, 30), (4, 65), (2, 98), (2, 87), (1, 116), (2, 91), (2, 92), (2, 97), (1, 112), (1, 134), (1, 129), (1, 131), (2, 88), (2, 89), (4, 66), (4, 68), (0, 31), (4, 69), (1, 63), (4, 70), (4, 72), (0, 32), (4, 73), (1, 73), (1, 86), (1, 89), (1, 82), (4, 74), (3, 186), (1, 2), (3, 187), (4, 75), (4, 77), (0, 33), (4, 78), (4, 79), (4, 81), (0, 34), (4, 82), (4, 83), (4, 85), (0, 35), (4, 86), (4, 87), (3, 197), (3, 198), (1, 8), (3, 199), (2, 35), (1, 118), (1, 110), (1, 88), (1, 133), (1, 128), (3, 200), (3, 182), (3, 183), (1, 4), (3, 184), (1, 84), (3, 201), (3, 202), (1, 18), (3, 203), (3, 204), (3, 205), (3, 206), (3, 207), (3, 209), (0, 22), (3, 210), (2, 40), (2, 36), (2, 39), (2, 37), (2, 38), (4, 88), (3, 220), (3, 221), (3, 222), (1, 117), (1, 109), (1, 83), (3, 181), (4, 89), (3, 163), (3, 164), (1, 5), (3, 165), (1, 181), (3, 166), (3, 139), (3, 140), (3, 141), (3, 167), (3, 143), (3, 144), (3, 145), (1, 185), (3, 154), (3, 156), (0, 21), (3, 157), (4, 90), (4, 92), (0, 36), (4, 93), (4, 94), (4, 1), (1, 12), (4, 2), (2, 96), (4, 95), (4, 97), (0, 37), (4, 98), (4, 99), (4, 101), (0, 38), (4, 102)] rfl (by decide +kernel)) hL_c9) hL_c5) hL_c8) hL_c4) hL_c3) hL_c0)
set_option maxRecDepth 20000 in
theorem hL_X9_sign : GoodIn lw_tbl (wsV RL 62 RX9 yX9_sign wsX9_sign) := goodIn_app (goodIn_t _ [(3, 228), (3, 229), (3, 230), (1, 1)] rfl (by decide +kernel)) (goodIn_ca (goodIn_ca (goodIn_ca (goodIn_ca (goodIn_ca (goodIn_ca (goodIn_t _ [(3, 231), (2, 129), (2, 133), (2, 132), (3, 176), (3, 177), (3, 178), (1, 2), (3, 179), (1, 113), (1, 109), (1, 74), (1, 132), (1, 130), (1, 127), (3, 180), (3, 173), (3, 174), (3, 175), (3, 181), (3, 182), (3, 183), (1, 4), (3, 184), (1, 84), (3, 185), (3, 186), (3, 187), (3, 232), (3, 233), (3, 234), (1, 9), (3, 235), (2, 64), (3, 192), (3, 193), (3, 194), (1, 8), (3, 195), (2, 35), (1, 115), (1, 110), (1, 88), (3, 196), (3, 197), (3, 198), (3, 199), (1, 118), (1, 133), (1, 128), (3, 200), (3, 201), (3, 202), (1, 18), (3, 203), (3, 204), (3, 205), (3, 206), (3, 207), (3, 209), (0, 22), (3, 210), (2, 40), (2, 36), (2, 39), (2, 37), (2, 38), (3, 236), (3, 237), (3, 238), (3, 239), (2, 62), (4, 0), (4, 1), (1, 12), (4, 2), (2, 80), (2, 63), (2, 65), (2, 66), (2, 61), (1, 137), (1, 49), (4, 3), (3, 99), (3, 100), (1, 3), (3, 101), (1, 42), (3, 94), (3, 96), (0, 19), (3, 97), (1, 46), (4, 4), (3, 111), (3, 112), (3, 113), (1, 85), (2, 233), (2, 235), (0, 7), (2, 236), (4, 5), (4, 7), (0, 23), (4, 8), (4, 9), (3, 91), (3, 92), (3, 93), (1, 41), (4, 10), (4, 11), (4, 12), (4, 13), (1, 76), (4, 14), (4, 16), (0, 24), (4, 17), (4, 18), (4, 20), (0, 25), (4, 21), (4, 22), (4, 24), (0, 26), (4, 25), (4, 26), (3, 107), (3, 108), (3, 109), (1, 45), (4, 27), (4, 29), (0, 27), (4, 30), (4, 31), (4, 32), (4, 33), (4, 34), (1, 141), (1, 139), (4, 35), (3, 115), (3, 116), (3, 117), (1, 140), (4, 36), (4, 38), (0, 28), (4, 39), (4, 40), (2, 181), (2, 182), (2, 183), (1, 107), (1, 106), (4, 41), (4, 42), (4, 43), (4, 44), (1, 43), (4, 45), (3, 119), (3, 120), (3, 121), (1, 44), (4, 46), (4, 47), (4, 48), (4, 49)] rfl (by decide +kernel)) hL_c9) hL_c8) hL_c4) hL_c6) hL_c3) hL_c2)
set_option maxRecDepth 20000 in
theorem hL_X9_sound : GoodIn lw_tbl (wsV RL 50 RX9 yX9_sound wsX9_sound) := goodIn_app (goodIn_t _ [(3, 168), (3, 169), (3, 170), (1, 1)] rfl (by decide +kernel)) (goodIn_ca (goodIn_ca (goodIn_ca (goodIn_t _ [(3, 171), (2, 129), (3, 172), (3, 173), (3, 174), (1, 2), (3, 175), (1, 113), (3, 176), (3, 177), (3, 178), (3, 179), (1, 109), (1, 74), (1, 132), (1, 130), (1, 127), (3, 180), (3, 181), (3, 182), (3, 183), (1, 4), (3, 184), (1, 84), (3, 185), (3, 186), (3, 187)] rfl (by decide +kernel)) hL_c9) hL_c8) hL_c4)
set_option maxRecDepth 20000 in
theorem hL_X9_text : GoodIn lw_tbl (wsV RL 26 RX9 yX9_text wsX9_text) := goodIn_app (goodIn_t _ [(2, 160), (2, 161), (2, 162), (1, 1)] rfl (by decide +kernel)) (goodIn_ca (goodIn_ca (goodIn_ca (goodIn_ca (goodIn_ca (goodIn_ca (goodIn_ca (goodIn_ca (goodIn_ca (goodIn_ca (goodIn_t _ [(2, 163), (2, 128), (2, 129), (2, 127), (2, 130), (2, 131), (2, 0), (2, 132), (2, 133), (2, 134), (1, 114), (2, 164), (2, 165), (2, 166), (1, 2), (2, 167), (1, 106), (1, 107), (2, 168), (2, 169), (2, 170), (2, 171), (1, 113), (1, 117), (1, 119), (1, 120), (1, 122), (1, 124), (1, 132), (1, 135), (1, 48), (1, 141), (2, 172), (2, 173), (2, 174), (1, 5), (2, 175), (1, 181), (1, 183), (1, 185), (2, 176), (2, 177), (2, 178), (1, 6), (2, 179), (1, 239), (2, 1), (2, 3), (2, 4), (2, 6), (2, 7), (1, 236), (1, 108), (2, 180), (2, 181), (2, 182), (2, 183), (2, 184), (2, 186), (0, 1), (2, 187), (2, 188), (2, 190), (0, 2), (2, 191), (2, 5), (1, 208), (1, 218), (2, 192), (2, 193), (2, 194), (2, 195), (2, 196), (2, 197), (2, 198), (2, 199), (2, 200), (1, 216), (2, 201), (2, 203), (0, 3), (2, 204), (2, 205), (2, 207), (0, 4), (2, 208), (2, 209), (2, 210), (2, 211), (2, 212), (1, 109), (1, 85), (2, 213), (2, 214), (2, 215), (1, 4), (2, 216), (1, 69), (1, 71), (1, 75), (1, 77), (1, 80), (1, 84), (1, 87), (2, 217), (2, 219), (0, 5), (2, 220), (1, 238), (2, 221), (2, 222), (2, 223), (1, 7), (2, 224), (1, 207), (1, 209), (1, 211), (1, 213), (1, 215), (1, 217), (1, 219), (2, 225), (2, 227), (0, 6), (2, 228), (1, 220), (1, 212), (1, 210), (1, 138), (2, 229), (2, 230), (2, 231), (2, 232), (1, 90), (2, 233), (2, 235), (0, 7), (2, 236), (2, 237), (2, 238), (2, 239), (1, 3), (3, 0), (1, 46), (1, 41), (1, 42), (1, 43), (1, 44), (1, 45), (3, 1), (3, 3), (0, 8), (3, 4), (3, 5), (3, 7), (0, 9), (3, 8), (3, 9), (3, 11), (0, 10), (3, 12), (3, 13), (3, 14), (3, 15), (3, 16), (3, 17), (3, 18), (3, 19), (3, 20), (3, 21), (3, 23), (0, 11), (3, 24), (1, 214), (3, 25), (3, 26), (3, 27), (3, 28), (1, 130), (1, 76), (1, 127), (3, 29), (3, 30), (3, 32), (0, 12), (3, 33), (3, 34), (3, 36), (0, 13), (3, 37), (3, 38), (3, 39), (3, 41), (0, 14), (3, 42), (3, 43), (3, 44), (3, 45), (3, 46), (3, 47), (3, 49), (0, 15), (3, 50), (3, 54), (3, 55), (1, 12), (3, 56), (1, 237), (3, 51), (3, 52), (3, 53), (3, 57), (3, 58), (3, 59), (3, 60), (3, 61), (3, 62), (3, 63), (3, 64), (1, 83), (3, 65), (3, 67), (0, 16), (3, 68), (3, 69), (3, 71), (0, 17), (3, 72), (1, 126), (3, 73), (3, 74), (3, 75), (3, 76), (1, 79), (3, 77), (3, 78), (3, 79), (3, 80), (1, 140), (1, 139), (3, 81), (3, 83), (0, 18), (3, 84), (3, 85), (3, 86), (3, 87), (3, 88), (1, 8), (3, 89), (2, 40), (2, 35), (1, 136), (1, 47), (3, 90), (3, 91), (3, 92), (3, 93), (3, 94), (3, 96), (0, 19), (3, 97), (3, 98), (3, 99), (3, 100), (3, 101), (3, 102), (3, 104), (0, 20), (3, 105), (2, 39), (2, 36), (2, 37), (2, 38), (3, 106), (3, 107), (3, 108), (3, 109), (3, 110), (3, 111), (3, 112), (3, 113), (3, 114), (3, 115), (3, 116), (3, 117), (3, 118), (3, 119), (3, 120), (3, 121), (3, 122), (3, 123), (3, 124), (1, 9), (3, 125), (2, 64), (3, 126), (3, 127), (3, 128), (1, 10), (3, 129), (2, 98)] rfl (by decide +kernel)) hL_c9) hL_c7) hL_c8) hL_c2) hL_c0) hL_c1) hL_c4) hL_c3) hL_c6) hL_c5)
set_option maxRecDepth 20000 in
theorem hL_X9_turned : GoodIn lw_tbl (wsV RL 78 RX9 yX9_turned wsX9_turned) := goodIn_app (goodIn_t _ [(4, 119), (4, 120), (4, 121), (1, 1)] rfl (by decide +kernel)) (goodIn_ca (goodIn_ca (goodIn_ca (goodIn_ca (goodIn_ca (goodIn_ca (goodIn_t _ [(4, 122), (2, 129), (1, 114), (2, 134), (3, 176), (3, 177), (3, 178), (1, 2), (3, 179), (1, 113), (1, 109), (1, 74), (1, 132), (1, 130), (1, 127), (3, 180), (3, 173), (3, 174), (3, 175), (3, 181), (3, 182), (3, 183), (1, 4), (3, 184), (1, 84), (3, 185), (3, 186), (3, 187), (4, 123), (4, 124), (4, 125), (1, 10), (4, 126), (2, 97), (2, 95), (2, 90), (4, 58), (4, 60), (0, 29), (4, 61), (2, 99), (2, 94), (2, 93), (4, 62), (4, 64), (0, 30), (4, 65), (2, 98), (2, 87), (1, 116), (2, 91), (2, 92), (1, 112), (1, 134), (1, 129), (1, 131), (2, 88), (2, 89), (4, 66), (4, 68), (0, 31), (4, 69), (1, 63), (4, 70), (4, 72), (0, 32), (4, 73), (1, 73), (1, 86), (1, 89), (1, 82), (4, 74), (4, 75), (4, 77), (0, 33), (4, 78), (4, 79), (4, 81), (0, 34), (4, 82), (4, 83), (4, 85), (0, 35), (4, 86), (4, 87), (3, 197), (3, 198), (1, 8), (3, 199), (2, 35), (1, 118), (1, 110), (1, 88), (1, 133), (1, 128), (3, 200), (3, 201), (3, 202), (1, 18), (3, 203), (3, 204), (3, 205), (3, 206), (3, 207), (3, 209), (0, 22), (3, 210), (2, 40), (2, 36), (2, 39), (2, 37), (2, 38), (4, 88), (3, 220), (3, 221), (3, 222), (1, 117), (1, 83), (4, 89), (3, 163), (3, 164), (1, 5), (3, 165), (1, 181), (3, 166), (3, 139), (3, 140), (3, 141), (3, 167), (3, 143), (3, 144), (3, 145), (1, 185), (3, 154), (3, 156), (0, 21), (3, 157), (4, 90), (4, 92), (0, 36), (4, 93), (4, 94), (4, 1), (1, 12), (4, 2), (2, 96), (4, 95), (4, 97), (0, 37), (4, 98), (4, 99), (4, 101), (0, 38), (4, 102), (4, 127)] rfl (by decide +kernel)) hL_c9) hL_c8) hL_c4) hL_c5) hL_c3) hL_c0)
set_option maxRecDepth 20000 in
theorem hL_X9_value : GoodIn lw_tbl (wsV RL 58 RX9 yX9_value wsX9_value) := goodIn_app (goodIn_t _ [(3, 211), (3, 212), (3, 213), (1, 1)] rfl (by decide +kernel)) (goodIn_ca (goodIn_ca (goodIn_ca (goodIn_ca (goodIn_t _ [(3, 214), (2, 129), (2, 130), (3, 176), (3, 177), (3, 178), (1, 2), (3, 179), (1, 113), (1, 109), (1, 74), (1, 132), (1, 130), (1, 127), (3, 180), (3, 173), (3, 174), (3, 175), (3, 181), (3, 182), (3, 183), (1, 4), (3, 184), (1, 84), (3, 185), (3, 186), (3, 187), (3, 215), (3, 216), (3, 217), (3, 218), (1, 83), (3, 219), (3, 220), (3, 221), (3, 222), (1, 117), (3, 223), (3, 224), (3, 225), (1, 5), (3, 226), (3, 227), (3, 163), (3, 164), (3, 165), (1, 181), (3, 166), (3, 139), (3, 140), (3, 141), (3, 167), (3, 143), (3, 144), (3, 145), (1, 185)] rfl (by decide +kernel)) hL_c9) hL_c8) hL_c4) hL_c0)
set_option maxRecDepth 20000 in
theorem hL_X9_weight : GoodIn lw_tbl (wsV RL 46 RX9 yX9_weight wsX9_weight) := goodIn_app (goodIn_t _ [(3, 158), (3, 159), (3, 160), (1, 1)] rfl (by decide +kernel)) (goodIn_ca (goodIn_ca (goodIn_t _ [(3, 161), (2, 130), (3, 138), (3, 139), (3, 140), (1, 5), (3, 141), (1, 181), (3, 162), (3, 163), (3, 164), (3, 165), (3, 166), (3, 167), (3, 143), (3, 144), (3, 145), (1, 185)] rfl (by decide +kernel)) hL_c9) hL_c0)
set_option maxRecDepth 20000 in
theorem hL_X9_init : GoodIn lw_tbl wsX9_init := (goodIn_ca (goodIn_ca (goodIn_ca (goodIn_ca (goodIn_ca (goodIn_ca (goodIn_ca (goodIn_ca (goodIn_ca (goodIn_ca (goodIn_t _ [(1, 23), (1, 24), (1, 25), (1, 26), (1, 63), (2, 127), (2, 128), (1, 27), (1, 28), (1, 2), (2, 129), (1, 175), (1, 176), (1, 5), (2, 130), (1, 194), (1, 195), (1, 6), (2, 131), (2, 29), (2, 30), (1, 8), (2, 132), (2, 55), (2, 56), (1, 9), (2, 133), (2, 81), (2, 82), (1, 10), (2, 134), (1, 29), (1, 30), (1, 31), (1, 32), (1, 106), (1, 107), (1, 33), (1, 109), (1, 113), (1, 117), (1, 119), (1, 120), (1, 122), (1, 124), (1, 127), (1, 130), (1, 132), (1, 35), (1, 36), (1, 3), (1, 135), (1, 139), (1, 140), (1, 141), (1, 64), (1, 4), (1, 38), (1, 39), (1, 40), (1, 41), (1, 42), (1, 43), (1, 44), (1, 45), (1, 46), (1, 66), (1, 67), (1, 68), (1, 69), (1, 71), (1, 75), (1, 77), (1, 80), (1, 84), (1, 87), (1, 178), (1, 179), (1, 180), (1, 181), (1, 183), (1, 185), (1, 196), (1, 197), (1, 198), (1, 199), (1, 200), (1, 238), (1, 239), (2, 1), (2, 3), (2, 4), (2, 6), (2, 7), (1, 236), (1, 237), (1, 202), (1, 7), (2, 5), (1, 204), (1, 205), (1, 206), (1, 207), (1, 209), (1, 211), (1, 213), (1, 215), (1, 217), (1, 219), (2, 31), (2, 32), (2, 33), (2, 34), (2, 36), (2, 37), (2, 38), (2, 54), (2, 39), (2, 40), (2, 35), (2, 57), (2, 58), (2, 59), (2, 60), (2, 80), (2, 62), (2, 63), (2, 64), (2, 65), (2, 66), (2, 61), (2, 83), (2, 84), (2, 85), (2, 86), (2, 90), (2, 91), (2, 92), (2, 93), (2, 94), (2, 95), (2, 96), (2, 97), (2, 98), (2, 99), (2, 87), (2, 88), (2, 89)] rfl (by decide +kernel)) hL_c9) hL_c8) hL_c0) hL_c7) hL_c3) hL_c6) hL_c5) hL_c2) hL_c4) hL_c1)
set_option maxRecDepth 20000 in
theorem hL_X10_init : GoodIn lw_tbl wsX10_init := (goodIn_ca (goodIn_t _ [(5, 0), (5, 1), (1, 25), (1, 26), (1, 63), (5, 45), (5, 49), (5, 51), (5, 52), (5, 53), (5, 54), (5, 55), (5, 56), (5, 58), (5, 59), (5, 60), (5, 61), (5, 62), (5, 64), (5, 66), (5, 68), (5, 70), (5, 73), (5, 74), (5, 80), (5, 81), (5, 82), (5, 83), (5, 84), (5, 86), (5, 87), (5, 88), (5, 89), (5, 91), (5, 93), (5, 95), (5, 96), (5, 100), (5, 101), (2, 54), (5, 102), (5, 103), (5, 104), (5, 105), (5, 106), (5, 110), (5, 2), (5, 4), (0, 40), (1, 11), (5, 5), (5, 75), (5, 57), (5, 107), (5, 76), (5, 6), (5, 8), (0, 41), (5, 9), (5, 63), (5, 10), (5, 11), (5, 12), (5, 13), (5, 15), (0, 42), (5, 16), (5, 108), (5, 50), (5, 17), (5, 19), (0, 43), (5, 20), (5, 65), (5, 21), (5, 23), (0, 44), (5, 24), (5, 25), (5, 27), (0, 45), (5, 28), (5, 29), (5, 31), (0, 46), (5, 32), (5, 33), (5, 35), (0, 47), (5, 36), (5, 109), (5, 37), (5, 39), (0, 48), (5, 40), (5, 72), (5, 41), (5, 43), (0, 49), (5, 44)] rfl (by decide +kernel)) hL_c10)
def R_law : String := "ShortTellerLaw"
def lw_P (b : Addr) (xs : List Int32) (args : Array Value) (s : State) : Prop := args = #[.ref b] ∧ s.IntsAt b xs ∧ xs.length ≤ 3072 ∧ (Jvm.Cond.and given_1 narrow_1).before args s = true
def lw_Q (_ : Array Value) (s : State) (o : Outcome) (t : State) : Prop := o = .returned (some (.int 1)) ∧ Framed s o t [] 601024 7293033
def lw_Z (below : List Frame) (a : Array Value) (s : State) : State → Prop := fun t => ∃ o, t.status = .running ∧ Ended t below o ∧ lw_Q a s o t
/-- the law's own end, with 1 on the stack, nothing written that was there before, its room as the claim has it -/
theorem lw_ret {p : Program} {l : Launch} {e : Env} {s : State} {m : MethodId} {below : List Frame} {meth : Method} {c : Code} {b : Nat} (hx : p.tables.exec = Jvm.exec) (hb : c.code = code) (hr : meth.sig.returnType = ret) (hlocks : meth.locks = false) {pc : Nat} {H : Heap} {ls : Array Slot} (hdg : decode code pc = .ok (.ireturn, 1)) : W p l e room_1 s m #[Value.ref b] below meth c H [] 601024 7293033 (lw_Z below #[Value.ref b] s) (F0 m pc ls [.int 1]) := by
  intro T hT X
  obtain ⟨fs, hret, hrun, hended, hW, hframe⟩ := X.leave (v := some (.int 1)) (hlocks := hlocks) (fun h => by rw [hr] at h; cases h)
  have hmeth' : T.vm.method? m = some meth := X.method'
  refine ⟨T.setFrames fs, ?_, .returned (some (.int 1)), hrun, hended, rfl, ⟨_, rfl⟩, hW, hframe⟩
  jvm_step X.here [X.here.top, hx, hb, hdg, hmeth', hr, ret, narrow_b1]
  (try refine ⟨rfl, ?_⟩); (try refine ⟨rfl, ?_⟩)
  first | (intro acts; rw [hret _ acts rfl rfl rfl]) | rw [hret _ _ rfl rfl rfl]
  exact Steps.refl _
/-- what holds at the law's entry: the machine, the code, the tables' words (any of lw_tbl by 'hts w (by decide +kernel)'), the script of L ints xs at the cell b, what the Statement gives of the start (any of its parts by flat_of_before) -/
def lw_At (p : Program) (s : State) (m : MethodId) (meth : Method) (c : Code) (b L : Nat) (xs : Nat → Int32) : Prop :=
  p.tables.exec = Jvm.exec ∧ c.code = code ∧ meth.sig.returnType = ret ∧ c.maxLocals = 7 ∧ s.vm.findClass R_law = some m.cls ∧ (∀ w ∈ lw_tbl, w.before #[Value.ref b] s = true) ∧ va_X b L xs s s.heap ∧ b < s.heap.size ∧ meth.locks = false ∧ (Jvm.Cond.and given_1 narrow_1).before #[Value.ref b] s = true
