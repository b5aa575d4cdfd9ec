theorem dX10_text_0 : decode cX10_text 0 = .ok (.aload_n 0, 1) := by decide +kernel
theorem dX10_text_1 : decode cX10_text 1 = .ok (.iconst 0, 1) := by decide +kernel
theorem dX10_text_10 : decode cX10_text 10 = .ok (.aload_n 0, 1) := by decide +kernel
theorem dX10_text_101 : decode cX10_text 101 = .ok (.aload_n 0, 1) := by decide +kernel
theorem dX10_text_102 : decode cX10_text 102 = .ok (.getfield 35, 3) := by decide +kernel
theorem dX10_text_105 : decode cX10_text 105 = .ok (.iload_n 2, 1) := by decide +kernel
theorem dX10_text_106 : decode cX10_text 106 = .ok (.aload_n 0, 1) := by decide +kernel
theorem dX10_text_107 : decode cX10_text 107 = .ok (.getfield 83, 3) := by decide +kernel
theorem dX10_text_11 : decode cX10_text 11 = .ok (.getfield 138, 3) := by decide +kernel
theorem dX10_text_110 : decode cX10_text 110 = .ok (.iload_n 2, 1) := by decide +kernel
theorem dX10_text_111 : decode cX10_text 111 = .ok (.iaload, 1) := by decide +kernel
theorem dX10_text_112 : decode cX10_text 112 = .ok (.iastore, 1) := by decide +kernel
theorem dX10_text_113 : decode cX10_text 113 = .ok (.aload_n 0, 1) := by decide +kernel
theorem dX10_text_114 : decode cX10_text 114 = .ok (.getfield 38, 3) := by decide +kernel
theorem dX10_text_117 : decode cX10_text 117 = .ok (.iload_n 2, 1) := by decide +kernel
theorem dX10_text_118 : decode cX10_text 118 = .ok (.aload_n 0, 1) := by decide +kernel
theorem dX10_text_119 : decode cX10_text 119 = .ok (.getfield 86, 3) := by decide +kernel
theorem dX10_text_122 : decode cX10_text 122 = .ok (.iload_n 2, 1) := by decide +kernel
theorem dX10_text_123 : decode cX10_text 123 = .ok (.iaload, 1) := by decide +kernel
theorem dX10_text_124 : decode cX10_text 124 = .ok (.iastore, 1) := by decide +kernel
theorem dX10_text_125 : decode cX10_text 125 = .ok (.aload_n 0, 1) := by decide +kernel
theorem dX10_text_126 : decode cX10_text 126 = .ok (.getfield 41, 3) := by decide +kernel
theorem dX10_text_129 : decode cX10_text 129 = .ok (.iload_n 2, 1) := by decide +kernel
theorem dX10_text_130 : decode cX10_text 130 = .ok (.aload_n 0, 1) := by decide +kernel
theorem dX10_text_131 : decode cX10_text 131 = .ok (.getfield 89, 3) := by decide +kernel
theorem dX10_text_134 : decode cX10_text 134 = .ok (.iload_n 2, 1) := by decide +kernel
theorem dX10_text_135 : decode cX10_text 135 = .ok (.iaload, 1) := by decide +kernel
theorem dX10_text_136 : decode cX10_text 136 = .ok (.iastore, 1) := by decide +kernel
theorem dX10_text_137 : decode cX10_text 137 = .ok (.aload_n 0, 1) := by decide +kernel
theorem dX10_text_138 : decode cX10_text 138 = .ok (.getfield 47, 3) := by decide +kernel
theorem dX10_text_14 : decode cX10_text 14 = .ok (.if_icmp .le 6, 3) := by decide +kernel
theorem dX10_text_141 : decode cX10_text 141 = .ok (.iload_n 2, 1) := by decide +kernel
theorem dX10_text_142 : decode cX10_text 142 = .ok (.aload_n 0, 1) := by decide +kernel
theorem dX10_text_143 : decode cX10_text 143 = .ok (.getfield 92, 3) := by decide +kernel
theorem dX10_text_146 : decode cX10_text 146 = .ok (.iload_n 2, 1) := by decide +kernel
theorem dX10_text_147 : decode cX10_text 147 = .ok (.iaload, 1) := by decide +kernel
theorem dX10_text_148 : decode cX10_text 148 = .ok (.iastore, 1) := by decide +kernel
theorem dX10_text_149 : decode cX10_text 149 = .ok (.iinc 2 1, 3) := by decide +kernel
theorem dX10_text_152 : decode cX10_text 152 = .ok (.goto (-59), 3) := by decide +kernel
theorem dX10_text_155 : decode cX10_text 155 = .ok (.iconst 0, 1) := by decide +kernel
theorem dX10_text_156 : decode cX10_text 156 = .ok (.istore_n 2, 1) := by decide +kernel
theorem dX10_text_157 : decode cX10_text 157 = .ok (.iload_n 2, 1) := by decide +kernel
theorem dX10_text_158 : decode cX10_text 158 = .ok (.aload_n 0, 1) := by decide +kernel
theorem dX10_text_159 : decode cX10_text 159 = .ok (.getfield 227, 3) := by decide +kernel
theorem dX10_text_162 : decode cX10_text 162 = .ok (.if_icmp .ge 123, 3) := by decide +kernel
theorem dX10_text_165 : decode cX10_text 165 = .ok (.aload_n 0, 1) := by decide +kernel
theorem dX10_text_166 : decode cX10_text 166 = .ok (.getfield 17, 3) := by decide +kernel
theorem dX10_text_169 : decode cX10_text 169 = .ok (.iload_n 2, 1) := by decide +kernel
theorem dX10_text_17 : decode cX10_text 17 = .ok (.bipush (-2), 2) := by decide +kernel
theorem dX10_text_170 : decode cX10_text 170 = .ok (.aload_n 0, 1) := by decide +kernel
theorem dX10_text_171 : decode cX10_text 171 = .ok (.getfield 68, 3) := by decide +kernel
theorem dX10_text_174 : decode cX10_text 174 = .ok (.iload_n 2, 1) := by decide +kernel
theorem dX10_text_175 : decode cX10_text 175 = .ok (.iaload, 1) := by decide +kernel
theorem dX10_text_176 : decode cX10_text 176 = .ok (.iastore, 1) := by decide +kernel
theorem dX10_text_177 : decode cX10_text 177 = .ok (.aload_n 0, 1) := by decide +kernel
theorem dX10_text_178 : decode cX10_text 178 = .ok (.getfield 20, 3) := by decide +kernel
theorem dX10_text_181 : decode cX10_text 181 = .ok (.iload_n 2, 1) := by decide +kernel
theorem dX10_text_182 : decode cX10_text 182 = .ok (.aload_n 0, 1) := by decide +kernel
theorem dX10_text_183 : decode cX10_text 183 = .ok (.getfield 71, 3) := by decide +kernel
theorem dX10_text_186 : decode cX10_text 186 = .ok (.iload_n 2, 1) := by decide +kernel
theorem dX10_text_187 : decode cX10_text 187 = .ok (.iaload, 1) := by decide +kernel
theorem dX10_text_188 : decode cX10_text 188 = .ok (.iastore, 1) := by decide +kernel
theorem dX10_text_189 : decode cX10_text 189 = .ok (.aload_n 0, 1) := by decide +kernel
theorem dX10_text_19 : decode cX10_text 19 = .ok (.ireturn, 1) := by decide +kernel
theorem dX10_text_190 : decode cX10_text 190 = .ok (.getfield 23, 3) := by decide +kernel
theorem dX10_text_193 : decode cX10_text 193 = .ok (.iload_n 2, 1) := by decide +kernel
theorem dX10_text_194 : decode cX10_text 194 = .ok (.aload_n 0, 1) := by decide +kernel
theorem dX10_text_195 : decode cX10_text 195 = .ok (.getfield 74, 3) := by decide +kernel
theorem dX10_text_198 : decode cX10_text 198 = .ok (.iload_n 2, 1) := by decide +kernel
theorem dX10_text_199 : decode cX10_text 199 = .ok (.iaload, 1) := by decide +kernel
theorem dX10_text_2 : decode cX10_text 2 = .ok (.putfield 135, 3) := by decide +kernel
theorem dX10_text_20 : decode cX10_text 20 = .ok (.aload_n 0, 1) := by decide +kernel
theorem dX10_text_200 : decode cX10_text 200 = .ok (.iastore, 1) := by decide +kernel
theorem dX10_text_201 : decode cX10_text 201 = .ok (.aload_n 0, 1) := by decide +kernel
theorem dX10_text_202 : decode cX10_text 202 = .ok (.getfield 26, 3) := by decide +kernel
theorem dX10_text_205 : decode cX10_text 205 = .ok (.iload_n 2, 1) := by decide +kernel
theorem dX10_text_206 : decode cX10_text 206 = .ok (.aload_n 0, 1) := by decide +kernel
theorem dX10_text_207 : decode cX10_text 207 = .ok (.getfield 77, 3) := by decide +kernel
theorem dX10_text_21 : decode cX10_text 21 = .ok (.iload_n 1, 1) := by decide +kernel
theorem dX10_text_210 : decode cX10_text 210 = .ok (.iload_n 2, 1) := by decide +kernel
theorem dX10_text_211 : decode cX10_text 211 = .ok (.iaload, 1) := by decide +kernel
theorem dX10_text_212 : decode cX10_text 212 = .ok (.iastore, 1) := by decide +kernel
theorem dX10_text_213 : decode cX10_text 213 = .ok (.aload_n 0, 1) := by decide +kernel
theorem dX10_text_214 : decode cX10_text 214 = .ok (.getfield 29, 3) := by decide +kernel
theorem dX10_text_217 : decode cX10_text 217 = .ok (.iload_n 2, 1) := by decide +kernel
theorem dX10_text_218 : decode cX10_text 218 = .ok (.aload_n 0, 1) := by decide +kernel
theorem dX10_text_219 : decode cX10_text 219 = .ok (.getfield 80, 3) := by decide +kernel
theorem dX10_text_22 : decode cX10_text 22 = .ok (.putfield 147, 3) := by decide +kernel
theorem dX10_text_222 : decode cX10_text 222 = .ok (.iload_n 2, 1) := by decide +kernel
theorem dX10_text_223 : decode cX10_text 223 = .ok (.iaload, 1) := by decide +kernel
theorem dX10_text_224 : decode cX10_text 224 = .ok (.iastore, 1) := by decide +kernel
theorem dX10_text_225 : decode cX10_text 225 = .ok (.aload_n 0, 1) := by decide +kernel
theorem dX10_text_226 : decode cX10_text 226 = .ok (.getfield 17, 3) := by decide +kernel
theorem dX10_text_229 : decode cX10_text 229 = .ok (.iload_n 2, 1) := by decide +kernel
theorem dX10_text_230 : decode cX10_text 230 = .ok (.iaload, 1) := by decide +kernel
theorem dX10_text_231 : decode cX10_text 231 = .ok (.iconst 2, 1) := by decide +kernel
theorem dX10_text_232 : decode cX10_text 232 = .ok (.if_icmp .le 6, 3) := by decide +kernel
theorem dX10_text_235 : decode cX10_text 235 = .ok (.goto 44, 3) := by decide +kernel
theorem dX10_text_238 : decode cX10_text 238 = .ok (.aload_n 0, 1) := by decide +kernel
theorem dX10_text_239 : decode cX10_text 239 = .ok (.dup, 1) := by decide +kernel
theorem dX10_text_240 : decode cX10_text 240 = .ok (.getfield 230, 3) := by decide +kernel
theorem dX10_text_243 : decode cX10_text 243 = .ok (.iconst 1, 1) := by decide +kernel
theorem dX10_text_244 : decode cX10_text 244 = .ok (.iadd, 1) := by decide +kernel
theorem dX10_text_245 : decode cX10_text 245 = .ok (.putfield 230, 3) := by decide +kernel
theorem dX10_text_248 : decode cX10_text 248 = .ok (.aload_n 0, 1) := by decide +kernel
theorem dX10_text_249 : decode cX10_text 249 = .ok (.getfield 20, 3) := by decide +kernel
theorem dX10_text_25 : decode cX10_text 25 = .ok (.aload_n 0, 1) := by decide +kernel
theorem dX10_text_252 : decode cX10_text 252 = .ok (.iload_n 2, 1) := by decide +kernel
theorem dX10_text_253 : decode cX10_text 253 = .ok (.iaload, 1) := by decide +kernel
theorem dX10_text_254 : decode cX10_text 254 = .ok (.istore_n 3, 1) := by decide +kernel
theorem dX10_text_255 : decode cX10_text 255 = .ok (.iload_n 3, 1) := by decide +kernel
theorem dX10_text_256 : decode cX10_text 256 = .ok (.ifCond .lt 23, 3) := by decide +kernel
theorem dX10_text_259 : decode cX10_text 259 = .ok (.aload_n 0, 1) := by decide +kernel
theorem dX10_text_26 : decode cX10_text 26 = .ok (.iconst 0, 1) := by decide +kernel
theorem dX10_text_260 : decode cX10_text 260 = .ok (.getfield 44, 3) := by decide +kernel
theorem dX10_text_263 : decode cX10_text 263 = .ok (.iload_n 3, 1) := by decide +kernel
theorem dX10_text_264 : decode cX10_text 264 = .ok (.dup2, 1) := by decide +kernel
theorem dX10_text_265 : decode cX10_text 265 = .ok (.iaload, 1) := by decide +kernel
theorem dX10_text_266 : decode cX10_text 266 = .ok (.iconst 1, 1) := by decide +kernel
theorem dX10_text_267 : decode cX10_text 267 = .ok (.iadd, 1) := by decide +kernel
theorem dX10_text_268 : decode cX10_text 268 = .ok (.iastore, 1) := by decide +kernel
theorem dX10_text_269 : decode cX10_text 269 = .ok (.aload_n 0, 1) := by decide +kernel
theorem dX10_text_27 : decode cX10_text 27 = .ok (.putfield 138, 3) := by decide +kernel
theorem dX10_text_270 : decode cX10_text 270 = .ok (.getfield 38, 3) := by decide +kernel
theorem dX10_text_273 : decode cX10_text 273 = .ok (.iload_n 3, 1) := by decide +kernel
theorem dX10_text_274 : decode cX10_text 274 = .ok (.iaload, 1) := by decide +kernel
theorem dX10_text_275 : decode cX10_text 275 = .ok (.istore_n 3, 1) := by decide +kernel
theorem dX10_text_276 : decode cX10_text 276 = .ok (.goto (-21), 3) := by decide +kernel
theorem dX10_text_279 : decode cX10_text 279 = .ok (.iinc 2 1, 3) := by decide +kernel
theorem dX10_text_282 : decode cX10_text 282 = .ok (.goto (-125), 3) := by decide +kernel
theorem dX10_text_285 : decode cX10_text 285 = .ok (.iconst 0, 1) := by decide +kernel
theorem dX10_text_286 : decode cX10_text 286 = .ok (.istore_n 2, 1) := by decide +kernel
theorem dX10_text_287 : decode cX10_text 287 = .ok (.iload_n 2, 1) := by decide +kernel
theorem dX10_text_288 : decode cX10_text 288 = .ok (.aload_n 0, 1) := by decide +kernel
theorem dX10_text_289 : decode cX10_text 289 = .ok (.getfield 147, 3) := by decide +kernel
theorem dX10_text_292 : decode cX10_text 292 = .ok (.if_icmp .ge 21, 3) := by decide +kernel
theorem dX10_text_295 : decode cX10_text 295 = .ok (.aload_n 0, 1) := by decide +kernel
theorem dX10_text_296 : decode cX10_text 296 = .ok (.getfield 32, 3) := by decide +kernel
theorem dX10_text_299 : decode cX10_text 299 = .ok (.iload_n 2, 1) := by decide +kernel
theorem dX10_text_30 : decode cX10_text 30 = .ok (.aload_n 0, 1) := by decide +kernel
theorem dX10_text_300 : decode cX10_text 300 = .ok (.aload_n 0, 1) := by decide +kernel
theorem dX10_text_301 : decode cX10_text 301 = .ok (.getfield 7, 3) := by decide +kernel
theorem dX10_text_304 : decode cX10_text 304 = .ok (.iload_n 2, 1) := by decide +kernel
theorem dX10_text_305 : decode cX10_text 305 = .ok (.iaload, 1) := by decide +kernel
theorem dX10_text_306 : decode cX10_text 306 = .ok (.iastore, 1) := by decide +kernel
theorem dX10_text_307 : decode cX10_text 307 = .ok (.iinc 2 1, 3) := by decide +kernel
theorem dX10_text_31 : decode cX10_text 31 = .ok (.iconst 0, 1) := by decide +kernel
theorem dX10_text_310 : decode cX10_text 310 = .ok (.goto (-23), 3) := by decide +kernel
theorem dX10_text_313 : decode cX10_text 313 = .ok (.aload_n 0, 1) := by decide +kernel
theorem dX10_text_314 : decode cX10_text 314 = .ok (.aload_n 0, 1) := by decide +kernel
theorem dX10_text_315 : decode cX10_text 315 = .ok (.getfield 200, 3) := by decide +kernel
theorem dX10_text_318 : decode cX10_text 318 = .ok (.putfield 236, 3) := by decide +kernel
theorem dX10_text_32 : decode cX10_text 32 = .ok (.putfield 141, 3) := by decide +kernel
theorem dX10_text_321 : decode cX10_text 321 = .ok (.iconst 0, 1) := by decide +kernel
theorem dX10_text_322 : decode cX10_text 322 = .ok (.istore_n 2, 1) := by decide +kernel
theorem dX10_text_323 : decode cX10_text 323 = .ok (.iload_n 2, 1) := by decide +kernel
theorem dX10_text_324 : decode cX10_text 324 = .ok (.aload_n 0, 1) := by decide +kernel
theorem dX10_text_325 : decode cX10_text 325 = .ok (.getfield 236, 3) := by decide +kernel
theorem dX10_text_328 : decode cX10_text 328 = .ok (.if_icmp .ge 21, 3) := by decide +kernel
theorem dX10_text_331 : decode cX10_text 331 = .ok (.aload_n 0, 1) := by decide +kernel
theorem dX10_text_332 : decode cX10_text 332 = .ok (.getfield 50, 3) := by decide +kernel
theorem dX10_text_335 : decode cX10_text 335 = .ok (.iload_n 2, 1) := by decide +kernel
theorem dX10_text_336 : decode cX10_text 336 = .ok (.aload_n 0, 1) := by decide +kernel
theorem dX10_text_337 : decode cX10_text 337 = .ok (.getfield 95, 3) := by decide +kernel
theorem dX10_text_340 : decode cX10_text 340 = .ok (.iload_n 2, 1) := by decide +kernel
theorem dX10_text_341 : decode cX10_text 341 = .ok (.iaload, 1) := by decide +kernel
theorem dX10_text_342 : decode cX10_text 342 = .ok (.iastore, 1) := by decide +kernel
theorem dX10_text_343 : decode cX10_text 343 = .ok (.iinc 2 1, 3) := by decide +kernel
theorem dX10_text_346 : decode cX10_text 346 = .ok (.goto (-23), 3) := by decide +kernel
theorem dX10_text_349 : decode cX10_text 349 = .ok (.aload_n 0, 1) := by decide +kernel
theorem dX10_text_35 : decode cX10_text 35 = .ok (.aload_n 0, 1) := by decide +kernel
theorem dX10_text_350 : decode cX10_text 350 = .ok (.aload_n 0, 1) := by decide +kernel
theorem dX10_text_351 : decode cX10_text 351 = .ok (.getfield 212, 3) := by decide +kernel
theorem dX10_text_354 : decode cX10_text 354 = .ok (.putfield 239, 3) := by decide +kernel
theorem dX10_text_357 : decode cX10_text 357 = .ok (.iconst 0, 1) := by decide +kernel
theorem dX10_text_358 : decode cX10_text 358 = .ok (.istore_n 2, 1) := by decide +kernel
theorem dX10_text_359 : decode cX10_text 359 = .ok (.iload_n 2, 1) := by decide +kernel
theorem dX10_text_36 : decode cX10_text 36 = .ok (.iconst (-1), 1) := by decide +kernel
theorem dX10_text_360 : decode cX10_text 360 = .ok (.aload_n 0, 1) := by decide +kernel
theorem dX10_text_361 : decode cX10_text 361 = .ok (.getfield 239, 3) := by decide +kernel
theorem dX10_text_364 : decode cX10_text 364 = .ok (.if_icmp .ge 21, 3) := by decide +kernel
theorem dX10_text_367 : decode cX10_text 367 = .ok (.aload_n 0, 1) := by decide +kernel
theorem dX10_text_368 : decode cX10_text 368 = .ok (.getfield 53, 3) := by decide +kernel
theorem dX10_text_37 : decode cX10_text 37 = .ok (.putfield 13, 3) := by decide +kernel
theorem dX10_text_371 : decode cX10_text 371 = .ok (.iload_n 2, 1) := by decide +kernel
theorem dX10_text_372 : decode cX10_text 372 = .ok (.aload_n 0, 1) := by decide +kernel
theorem dX10_text_373 : decode cX10_text 373 = .ok (.getfield 98, 3) := by decide +kernel
theorem dX10_text_376 : decode cX10_text 376 = .ok (.iload_n 2, 1) := by decide +kernel
theorem dX10_text_377 : decode cX10_text 377 = .ok (.iaload, 1) := by decide +kernel
theorem dX10_text_378 : decode cX10_text 378 = .ok (.iastore, 1) := by decide +kernel
theorem dX10_text_379 : decode cX10_text 379 = .ok (.iinc 2 1, 3) := by decide +kernel
theorem dX10_text_382 : decode cX10_text 382 = .ok (.goto (-23), 3) := by decide +kernel
theorem dX10_text_385 : decode cX10_text 385 = .ok (.aload_n 0, 1) := by decide +kernel
theorem dX10_text_386 : decode cX10_text 386 = .ok (.aload_n 0, 1) := by decide +kernel
theorem dX10_text_387 : decode cX10_text 387 = .ok (.getfield 209, 3) := by decide +kernel
theorem dX10_text_390 : decode cX10_text 390 = .ok (.putfield 242, 3) := by decide +kernel
theorem dX10_text_393 : decode cX10_text 393 = .ok (.iconst 0, 1) := by decide +kernel
theorem dX10_text_394 : decode cX10_text 394 = .ok (.istore_n 2, 1) := by decide +kernel
theorem dX10_text_395 : decode cX10_text 395 = .ok (.iload_n 2, 1) := by decide +kernel
theorem dX10_text_396 : decode cX10_text 396 = .ok (.aload_n 0, 1) := by decide +kernel
theorem dX10_text_397 : decode cX10_text 397 = .ok (.getfield 242, 3) := by decide +kernel
theorem dX10_text_40 : decode cX10_text 40 = .ok (.aload_n 0, 1) := by decide +kernel
theorem dX10_text_400 : decode cX10_text 400 = .ok (.if_icmp .ge 21, 3) := by decide +kernel
theorem dX10_text_403 : decode cX10_text 403 = .ok (.aload_n 0, 1) := by decide +kernel
theorem dX10_text_404 : decode cX10_text 404 = .ok (.getfield 56, 3) := by decide +kernel
theorem dX10_text_407 : decode cX10_text 407 = .ok (.iload_n 2, 1) := by decide +kernel
theorem dX10_text_408 : decode cX10_text 408 = .ok (.aload_n 0, 1) := by decide +kernel
theorem dX10_text_409 : decode cX10_text 409 = .ok (.getfield 101, 3) := by decide +kernel
theorem dX10_text_41 : decode cX10_text 41 = .ok (.invokevirtual 224, 3) := by decide +kernel
theorem dX10_text_412 : decode cX10_text 412 = .ok (.iload_n 2, 1) := by decide +kernel
theorem dX10_text_413 : decode cX10_text 413 = .ok (.iaload, 1) := by decide +kernel
theorem dX10_text_414 : decode cX10_text 414 = .ok (.iastore, 1) := by decide +kernel
theorem dX10_text_415 : decode cX10_text 415 = .ok (.iinc 2 1, 3) := by decide +kernel
theorem dX10_text_418 : decode cX10_text 418 = .ok (.goto (-23), 3) := by decide +kernel
theorem dX10_text_421 : decode cX10_text 421 = .ok (.aload_n 0, 1) := by decide +kernel
theorem dX10_text_422 : decode cX10_text 422 = .ok (.iconst 0, 1) := by decide +kernel
theorem dX10_text_423 : decode cX10_text 423 = .ok (.putfield 245, 3) := by decide +kernel
theorem dX10_text_426 : decode cX10_text 426 = .ok (.iconst 0, 1) := by decide +kernel
theorem dX10_text_427 : decode cX10_text 427 = .ok (.istore_n 2, 1) := by decide +kernel
theorem dX10_text_428 : decode cX10_text 428 = .ok (.iload_n 2, 1) := by decide +kernel
theorem dX10_text_429 : decode cX10_text 429 = .ok (.bipush 31, 2) := by decide +kernel
theorem dX10_text_431 : decode cX10_text 431 = .ok (.if_icmp .ge 46, 3) := by decide +kernel
theorem dX10_text_434 : decode cX10_text 434 = .ok (.aload_n 0, 1) := by decide +kernel
theorem dX10_text_435 : decode cX10_text 435 = .ok (.getfield 59, 3) := by decide +kernel
theorem dX10_text_438 : decode cX10_text 438 = .ok (.iload_n 2, 1) := by decide +kernel
theorem dX10_text_439 : decode cX10_text 439 = .ok (.aload_n 0, 1) := by decide +kernel
theorem dX10_text_44 : decode cX10_text 44 = .ok (.ifCond .ne 5, 3) := by decide +kernel
theorem dX10_text_440 : decode cX10_text 440 = .ok (.getfield 104, 3) := by decide +kernel
theorem dX10_text_443 : decode cX10_text 443 = .ok (.iload_n 2, 1) := by decide +kernel
theorem dX10_text_444 : decode cX10_text 444 = .ok (.iaload, 1) := by decide +kernel
theorem dX10_text_445 : decode cX10_text 445 = .ok (.iastore, 1) := by decide +kernel
theorem dX10_text_446 : decode cX10_text 446 = .ok (.aload_n 0, 1) := by decide +kernel
theorem dX10_text_447 : decode cX10_text 447 = .ok (.dup, 1) := by decide +kernel
theorem dX10_text_448 : decode cX10_text 448 = .ok (.getfield 245, 3) := by decide +kernel
theorem dX10_text_451 : decode cX10_text 451 = .ok (.aload_n 0, 1) := by decide +kernel
theorem dX10_text_452 : decode cX10_text 452 = .ok (.getfield 59, 3) := by decide +kernel
theorem dX10_text_455 : decode cX10_text 455 = .ok (.iload_n 2, 1) := by decide +kernel
theorem dX10_text_456 : decode cX10_text 456 = .ok (.iaload, 1) := by decide +kernel
theorem dX10_text_457 : decode cX10_text 457 = .ok (.ifCond .le 9, 3) := by decide +kernel
theorem dX10_text_460 : decode cX10_text 460 = .ok (.iconst 1, 1) := by decide +kernel
theorem dX10_text_461 : decode cX10_text 461 = .ok (.iload_n 2, 1) := by decide +kernel
theorem dX10_text_462 : decode cX10_text 462 = .ok (.ishl, 1) := by decide +kernel
theorem dX10_text_463 : decode cX10_text 463 = .ok (.goto 4, 3) := by decide +kernel
theorem dX10_text_466 : decode cX10_text 466 = .ok (.iconst 0, 1) := by decide +kernel
theorem dX10_text_467 : decode cX10_text 467 = .ok (.ior, 1) := by decide +kernel
theorem dX10_text_468 : decode cX10_text 468 = .ok (.putfield 245, 3) := by decide +kernel
theorem dX10_text_47 : decode cX10_text 47 = .ok (.iconst (-1), 1) := by decide +kernel
theorem dX10_text_471 : decode cX10_text 471 = .ok (.iinc 2 1, 3) := by decide +kernel
theorem dX10_text_474 : decode cX10_text 474 = .ok (.goto (-46), 3) := by decide +kernel
theorem dX10_text_477 : decode cX10_text 477 = .ok (.aload_n 0, 1) := by decide +kernel
theorem dX10_text_478 : decode cX10_text 478 = .ok (.iconst 0, 1) := by decide +kernel
theorem dX10_text_479 : decode cX10_text 479 = .ok (.putfield 248, 3) := by decide +kernel
theorem dX10_text_48 : decode cX10_text 48 = .ok (.ireturn, 1) := by decide +kernel
theorem dX10_text_482 : decode cX10_text 482 = .ok (.aload_n 0, 1) := by decide +kernel
theorem dX10_text_483 : decode cX10_text 483 = .ok (.invokevirtual 132, 3) := by decide +kernel
theorem dX10_text_486 : decode cX10_text 486 = .ok (.aload_n 0, 1) := by decide +kernel
theorem dX10_text_487 : decode cX10_text 487 = .ok (.getfield 233, 3) := by decide +kernel
theorem dX10_text_49 : decode cX10_text 49 = .ok (.aload_n 0, 1) := by decide +kernel
theorem dX10_text_490 : decode cX10_text 490 = .ok (.ireturn, 1) := by decide +kernel
theorem dX10_text_5 : decode cX10_text 5 = .ok (.iload_n 1, 1) := by decide +kernel
theorem dX10_text_50 : decode cX10_text 50 = .ok (.aload_n 0, 1) := by decide +kernel
theorem dX10_text_51 : decode cX10_text 51 = .ok (.getfield 158, 3) := by decide +kernel
theorem dX10_text_54 : decode cX10_text 54 = .ok (.putfield 227, 3) := by decide +kernel
theorem dX10_text_57 : decode cX10_text 57 = .ok (.aload_n 0, 1) := by decide +kernel
theorem dX10_text_58 : decode cX10_text 58 = .ok (.iconst 0, 1) := by decide +kernel
theorem dX10_text_59 : decode cX10_text 59 = .ok (.putfield 230, 3) := by decide +kernel
theorem dX10_text_6 : decode cX10_text 6 = .ok (.ifCond .lt 11, 3) := by decide +kernel
theorem dX10_text_62 : decode cX10_text 62 = .ok (.iconst 0, 1) := by decide +kernel
theorem dX10_text_63 : decode cX10_text 63 = .ok (.istore_n 2, 1) := by decide +kernel
theorem dX10_text_64 : decode cX10_text 64 = .ok (.iload_n 2, 1) := by decide +kernel
theorem dX10_text_65 : decode cX10_text 65 = .ok (.bipush 14, 2) := by decide +kernel
theorem dX10_text_67 : decode cX10_text 67 = .ok (.if_icmp .ge 16, 3) := by decide +kernel
theorem dX10_text_70 : decode cX10_text 70 = .ok (.aload_n 0, 1) := by decide +kernel
theorem dX10_text_71 : decode cX10_text 71 = .ok (.getfield 44, 3) := by decide +kernel
theorem dX10_text_74 : decode cX10_text 74 = .ok (.iload_n 2, 1) := by decide +kernel
theorem dX10_text_75 : decode cX10_text 75 = .ok (.iconst 0, 1) := by decide +kernel
theorem dX10_text_76 : decode cX10_text 76 = .ok (.iastore, 1) := by decide +kernel
theorem dX10_text_77 : decode cX10_text 77 = .ok (.iinc 2 1, 3) := by decide +kernel
theorem dX10_text_80 : decode cX10_text 80 = .ok (.goto (-16), 3) := by decide +kernel
theorem dX10_text_83 : decode cX10_text 83 = .ok (.aload_n 0, 1) := by decide +kernel
theorem dX10_text_84 : decode cX10_text 84 = .ok (.aload_n 0, 1) := by decide +kernel
theorem dX10_text_85 : decode cX10_text 85 = .ok (.getfield 181, 3) := by decide +kernel
theorem dX10_text_88 : decode cX10_text 88 = .ok (.putfield 233, 3) := by decide +kernel
theorem dX10_text_9 : decode cX10_text 9 = .ok (.iload_n 1, 1) := by decide +kernel
theorem dX10_text_91 : decode cX10_text 91 = .ok (.iconst 0, 1) := by decide +kernel
theorem dX10_text_92 : decode cX10_text 92 = .ok (.istore_n 2, 1) := by decide +kernel
theorem dX10_text_93 : decode cX10_text 93 = .ok (.iload_n 2, 1) := by decide +kernel
theorem dX10_text_94 : decode cX10_text 94 = .ok (.aload_n 0, 1) := by decide +kernel
theorem dX10_text_95 : decode cX10_text 95 = .ok (.getfield 233, 3) := by decide +kernel
theorem dX10_text_98 : decode cX10_text 98 = .ok (.if_icmp .ge 57, 3) := by decide +kernel
set_option maxRecDepth 20000 in
theorem ggX10_text_X10_reads : GoodIn wsX10_text wsX10_reads := goodIn_r _ [52, 53, 6, 10, 32, 36, 40, 54, 46, 3, 55, 56, 57, 51, 58, 59, 60, 61, 62, 31, 63, 64, 65, 66, 67, 68, 69, 43, 39, 70, 71, 72, 73, 74, 75, 76, 77, 78, 79, 80, 81, 82, 83, 84, 85, 86, 87, 88, 89, 90, 91, 92, 4, 5, 93, 94, 95, 96, 13, 15, 17, 19, 97, 98, 99, 100, 21, 23, 25, 27, 29, 101, 102, 103, 104, 35, 105, 106, 107, 108, 109, 110, 111, 112, 113, 114, 115, 116, 117, 118, 119, 120, 172, 173, 174, 175, 176, 177, 178, 179, 180, 181, 182, 183, 184, 185, 186, 187, 188, 189, 190, 191, 192, 193, 194, 195, 196, 197, 198, 199, 200, 201, 202, 203, 204, 205, 206, 207, 208, 209, 210, 211, 212, 213, 214, 215, 216, 217, 218, 219, 220, 221, 222, 223, 224, 225, 226, 227, 228, 229, 230, 231, 232, 233, 234, 235, 236, 237] rfl (by decide +kernel)
set_option maxRecDepth 20000 in
theorem gX10_text_X10_reads : GoodIn wsX10_text (wsV RX10 224 RX10 yX10_reads wsX10_reads) := goodIn_app (goodIn_of _ (by decide +kernel)) ggX10_text_X10_reads
set_option maxRecDepth 20000 in
theorem ggX10_text_X10_finish : GoodIn wsX10_text wsX10_finish := goodIn_r _ [124, 125, 11, 126, 127, 128, 129, 130, 131, 51, 132, 14, 33, 34, 16, 133, 134, 135, 136, 137, 138, 139, 140, 7, 20, 22, 141, 28, 24, 26, 142, 143, 144, 145, 38, 37, 146, 147, 148, 149, 150, 151, 152, 153, 30, 154, 155, 156, 157, 158, 159, 160, 161, 162, 163, 164, 165, 166, 167, 47, 45, 168, 169, 170, 171, 18, 42, 172, 173, 174, 175, 176, 177, 178, 179, 180, 181, 182, 183, 184, 185, 186, 187, 188, 189, 190, 191, 192, 193, 194, 195, 196, 197, 198, 199, 200, 201, 202, 203, 204, 205, 206, 207, 208, 209, 210, 211, 212, 213, 214, 215, 216, 217, 218, 219, 220, 221, 222, 223, 224, 225, 226, 227, 228, 229, 230, 231, 232, 233, 234, 235, 236, 237] rfl (by decide +kernel)
set_option maxRecDepth 20000 in
theorem gX10_text_X10_finish : GoodIn wsX10_text (wsV RX10 132 RX10 yX10_finish wsX10_finish) := goodIn_app (goodIn_of _ (by decide +kernel)) ggX10_text_X10_finish
