theorem d_Search_siftPlaces_163 : decode b_Search_siftPlaces 163 = .ok (.goto 4, 3) := by decide +kernel
theorem d_Search_siftPlaces_166 : decode b_Search_siftPlaces 166 = .ok (.iconst 0, 1) := by decide +kernel
theorem d_Search_siftPlaces_167 : decode b_Search_siftPlaces 167 = .ok (.istore 16, 2) := by decide +kernel
theorem d_Search_siftPlaces_169 : decode b_Search_siftPlaces 169 = .ok (.iload 8, 2) := by decide +kernel
theorem d_Search_siftPlaces_171 : decode b_Search_siftPlaces 171 = .ok (.ifCond .eq 22, 3) := by decide +kernel
theorem d_Search_siftPlaces_174 : decode b_Search_siftPlaces 174 = .ok (.iload 11, 2) := by decide +kernel
theorem d_Search_siftPlaces_176 : decode b_Search_siftPlaces 176 = .ok (.iload_n 1, 1) := by decide +kernel
theorem d_Search_siftPlaces_177 : decode b_Search_siftPlaces 177 = .ok (.if_icmp .ge 16, 3) := by decide +kernel
theorem d_Search_siftPlaces_180 : decode b_Search_siftPlaces 180 = .ok (.iload 15, 2) := by decide +kernel
theorem d_Search_siftPlaces_182 : decode b_Search_siftPlaces 182 = .ok (.aload_n 0, 1) := by decide +kernel
theorem d_Search_siftPlaces_183 : decode b_Search_siftPlaces 183 = .ok (.getfield 41, 3) := by decide +kernel
theorem d_Search_siftPlaces_186 : decode b_Search_siftPlaces 186 = .ok (.if_icmp .gt 7, 3) := by decide +kernel
theorem d_Search_siftPlaces_189 : decode b_Search_siftPlaces 189 = .ok (.iconst 1, 1) := by decide +kernel
theorem d_Search_siftPlaces_190 : decode b_Search_siftPlaces 190 = .ok (.goto 4, 3) := by decide +kernel
theorem d_Search_siftPlaces_193 : decode b_Search_siftPlaces 193 = .ok (.iconst 0, 1) := by decide +kernel
theorem d_Search_siftPlaces_194 : decode b_Search_siftPlaces 194 = .ok (.istore 17, 2) := by decide +kernel
theorem d_Search_siftPlaces_196 : decode b_Search_siftPlaces 196 = .ok (.iload 16, 2) := by decide +kernel
theorem d_Search_siftPlaces_198 : decode b_Search_siftPlaces 198 = .ok (.ifCond .ne 8, 3) := by decide +kernel
theorem d_Search_siftPlaces_201 : decode b_Search_siftPlaces 201 = .ok (.iload 17, 2) := by decide +kernel
theorem d_Search_siftPlaces_203 : decode b_Search_siftPlaces 203 = .ok (.ifCond .eq 11, 3) := by decide +kernel
theorem d_Search_siftPlaces_206 : decode b_Search_siftPlaces 206 = .ok (.iload 9, 2) := by decide +kernel
theorem d_Search_siftPlaces_208 : decode b_Search_siftPlaces 208 = .ok (.iload 12, 2) := by decide +kernel
theorem d_Search_siftPlaces_210 : decode b_Search_siftPlaces 210 = .ok (.iand, 1) := by decide +kernel
theorem d_Search_siftPlaces_211 : decode b_Search_siftPlaces 211 = .ok (.goto 13, 3) := by decide +kernel
theorem d_Search_siftPlaces_214 : decode b_Search_siftPlaces 214 = .ok (.aload_n 0, 1) := by decide +kernel
theorem d_Search_siftPlaces_215 : decode b_Search_siftPlaces 215 = .ok (.iload 11, 2) := by decide +kernel
theorem d_Search_siftPlaces_217 : decode b_Search_siftPlaces 217 = .ok (.iload 15, 2) := by decide +kernel
theorem d_Search_siftPlaces_219 : decode b_Search_siftPlaces 219 = .ok (.iload 9, 2) := by decide +kernel
theorem d_Search_siftPlaces_221 : decode b_Search_siftPlaces 221 = .ok (.invokevirtual 130, 3) := by decide +kernel
theorem d_Search_siftPlaces_224 : decode b_Search_siftPlaces 224 = .ok (.istore 9, 2) := by decide +kernel
theorem d_Search_siftPlaces_226 : decode b_Search_siftPlaces 226 = .ok (.iinc 10 1, 3) := by decide +kernel
theorem d_Search_siftPlaces_229 : decode b_Search_siftPlaces 229 = .ok (.goto (-170), 3) := by decide +kernel
theorem d_Search_siftPlaces_232 : decode b_Search_siftPlaces 232 = .ok (.iconst 0, 1) := by decide +kernel
theorem d_Search_siftPlaces_233 : decode b_Search_siftPlaces 233 = .ok (.istore 10, 2) := by decide +kernel
theorem d_Search_siftPlaces_235 : decode b_Search_siftPlaces 235 = .ok (.iload 10, 2) := by decide +kernel
theorem d_Search_siftPlaces_237 : decode b_Search_siftPlaces 237 = .ok (.iconst 4, 1) := by decide +kernel
theorem d_Search_siftPlaces_238 : decode b_Search_siftPlaces 238 = .ok (.if_icmp .ge 78, 3) := by decide +kernel
theorem d_Search_siftPlaces_241 : decode b_Search_siftPlaces 241 = .ok (.iload 9, 2) := by decide +kernel
theorem d_Search_siftPlaces_243 : decode b_Search_siftPlaces 243 = .ok (.iload 10, 2) := by decide +kernel
theorem d_Search_siftPlaces_245 : decode b_Search_siftPlaces 245 = .ok (.ishr, 1) := by decide +kernel
theorem d_Search_siftPlaces_246 : decode b_Search_siftPlaces 246 = .ok (.iconst 1, 1) := by decide +kernel
theorem d_Search_siftPlaces_247 : decode b_Search_siftPlaces 247 = .ok (.iand, 1) := by decide +kernel
theorem d_Search_siftPlaces_248 : decode b_Search_siftPlaces 248 = .ok (.ifCond .eq 62, 3) := by decide +kernel
theorem d_Search_siftPlaces_251 : decode b_Search_siftPlaces 251 = .ok (.aload_n 0, 1) := by decide +kernel
theorem d_Search_siftPlaces_252 : decode b_Search_siftPlaces 252 = .ok (.getfield 25, 3) := by decide +kernel
theorem d_Search_siftPlaces_255 : decode b_Search_siftPlaces 255 = .ok (.iload 10, 2) := by decide +kernel
theorem d_Search_siftPlaces_257 : decode b_Search_siftPlaces 257 = .ok (.dup2, 1) := by decide +kernel
theorem d_Search_siftPlaces_258 : decode b_Search_siftPlaces 258 = .ok (.iaload, 1) := by decide +kernel
theorem d_Search_siftPlaces_259 : decode b_Search_siftPlaces 259 = .ok (.aload_n 0, 1) := by decide +kernel
theorem d_Search_siftPlaces_260 : decode b_Search_siftPlaces 260 = .ok (.iload 10, 2) := by decide +kernel
theorem d_Search_siftPlaces_262 : decode b_Search_siftPlaces 262 = .ok (.invokevirtual 133, 3) := by decide +kernel
theorem d_Search_siftPlaces_265 : decode b_Search_siftPlaces 265 = .ok (.iadd, 1) := by decide +kernel
theorem d_Search_siftPlaces_266 : decode b_Search_siftPlaces 266 = .ok (.iastore, 1) := by decide +kernel
theorem d_Search_siftPlaces_267 : decode b_Search_siftPlaces 267 = .ok (.aload_n 0, 1) := by decide +kernel
theorem d_Search_siftPlaces_268 : decode b_Search_siftPlaces 268 = .ok (.getfield 25, 3) := by decide +kernel
theorem d_Search_siftPlaces_271 : decode b_Search_siftPlaces 271 = .ok (.iload 10, 2) := by decide +kernel
theorem d_Search_siftPlaces_273 : decode b_Search_siftPlaces 273 = .ok (.iaload, 1) := by decide +kernel
theorem d_Search_siftPlaces_274 : decode b_Search_siftPlaces 274 = .ok (.aload_n 0, 1) := by decide +kernel
theorem d_Search_siftPlaces_275 : decode b_Search_siftPlaces 275 = .ok (.iload 10, 2) := by decide +kernel
theorem d_Search_siftPlaces_277 : decode b_Search_siftPlaces 277 = .ok (.invokevirtual 136, 3) := by decide +kernel
theorem d_Search_siftPlaces_280 : decode b_Search_siftPlaces 280 = .ok (.iadd, 1) := by decide +kernel
theorem d_Search_siftPlaces_281 : decode b_Search_siftPlaces 281 = .ok (.aload_n 0, 1) := by decide +kernel
theorem d_Search_siftPlaces_282 : decode b_Search_siftPlaces 282 = .ok (.iload 10, 2) := by decide +kernel
theorem d_Search_siftPlaces_284 : decode b_Search_siftPlaces 284 = .ok (.iconst 3, 1) := by decide +kernel
theorem d_Search_siftPlaces_285 : decode b_Search_siftPlaces 285 = .ok (.iadd, 1) := by decide +kernel
theorem d_Search_siftPlaces_286 : decode b_Search_siftPlaces 286 = .ok (.iconst 3, 1) := by decide +kernel
theorem d_Search_siftPlaces_287 : decode b_Search_siftPlaces 287 = .ok (.iand, 1) := by decide +kernel
theorem d_Search_siftPlaces_288 : decode b_Search_siftPlaces 288 = .ok (.invokevirtual 136, 3) := by decide +kernel
theorem d_Search_siftPlaces_291 : decode b_Search_siftPlaces 291 = .ok (.iadd, 1) := by decide +kernel
theorem d_Search_siftPlaces_292 : decode b_Search_siftPlaces 292 = .ok (.aload_n 0, 1) := by decide +kernel
theorem d_Search_siftPlaces_293 : decode b_Search_siftPlaces 293 = .ok (.getfield 37, 3) := by decide +kernel
theorem d_Search_siftPlaces_296 : decode b_Search_siftPlaces 296 = .ok (.if_icmp .le 14, 3) := by decide +kernel
theorem d_Search_siftPlaces_299 : decode b_Search_siftPlaces 299 = .ok (.iload 9, 2) := by decide +kernel
theorem d_Search_siftPlaces_301 : decode b_Search_siftPlaces 301 = .ok (.iconst 1, 1) := by decide +kernel
theorem d_Search_siftPlaces_302 : decode b_Search_siftPlaces 302 = .ok (.iload 10, 2) := by decide +kernel
theorem d_Search_siftPlaces_304 : decode b_Search_siftPlaces 304 = .ok (.ishl, 1) := by decide +kernel
theorem d_Search_siftPlaces_305 : decode b_Search_siftPlaces 305 = .ok (.iconst (-1), 1) := by decide +kernel
theorem d_Search_siftPlaces_306 : decode b_Search_siftPlaces 306 = .ok (.ixor, 1) := by decide +kernel
theorem d_Search_siftPlaces_307 : decode b_Search_siftPlaces 307 = .ok (.iand, 1) := by decide +kernel
theorem d_Search_siftPlaces_308 : decode b_Search_siftPlaces 308 = .ok (.istore 9, 2) := by decide +kernel
theorem d_Search_siftPlaces_310 : decode b_Search_siftPlaces 310 = .ok (.iinc 10 1, 3) := by decide +kernel
theorem d_Search_siftPlaces_313 : decode b_Search_siftPlaces 313 = .ok (.goto (-78), 3) := by decide +kernel
theorem d_Search_siftPlaces_316 : decode b_Search_siftPlaces 316 = .ok (.iload 9, 2) := by decide +kernel
theorem d_Search_siftPlaces_318 : decode b_Search_siftPlaces 318 = .ok (.ifCond .ne 4, 3) := by decide +kernel
theorem d_Search_siftPlaces_321 : decode b_Search_siftPlaces 321 = .ok (.return_, 1) := by decide +kernel
theorem d_Search_siftPlaces_322 : decode b_Search_siftPlaces 322 = .ok (.iload 8, 2) := by decide +kernel
theorem d_Search_siftPlaces_324 : decode b_Search_siftPlaces 324 = .ok (.ifCond .eq 10, 3) := by decide +kernel
theorem d_Search_siftPlaces_327 : decode b_Search_siftPlaces 327 = .ok (.aload_n 0, 1) := by decide +kernel
theorem d_Search_siftPlaces_328 : decode b_Search_siftPlaces 328 = .ok (.iload 9, 2) := by decide +kernel
theorem d_Search_siftPlaces_330 : decode b_Search_siftPlaces 330 = .ok (.invokevirtual 139, 3) := by decide +kernel
theorem d_Search_siftPlaces_333 : decode b_Search_siftPlaces 333 = .ok (.return_, 1) := by decide +kernel
theorem d_Search_siftPlaces_334 : decode b_Search_siftPlaces 334 = .ok (.iload_n 3, 1) := by decide +kernel
theorem d_Search_siftPlaces_335 : decode b_Search_siftPlaces 335 = .ok (.iload 5, 2) := by decide +kernel
theorem d_Search_siftPlaces_337 : decode b_Search_siftPlaces 337 = .ok (.iadd, 1) := by decide +kernel
theorem d_Search_siftPlaces_338 : decode b_Search_siftPlaces 338 = .ok (.iconst 2, 1) := by decide +kernel
theorem d_Search_siftPlaces_339 : decode b_Search_siftPlaces 339 = .ok (.idiv, 1) := by decide +kernel
theorem d_Search_siftPlaces_340 : decode b_Search_siftPlaces 340 = .ok (.istore 10, 2) := by decide +kernel
theorem d_Search_siftPlaces_342 : decode b_Search_siftPlaces 342 = .ok (.iload 4, 2) := by decide +kernel
theorem d_Search_siftPlaces_344 : decode b_Search_siftPlaces 344 = .ok (.iload 6, 2) := by decide +kernel
theorem d_Search_siftPlaces_346 : decode b_Search_siftPlaces 346 = .ok (.iadd, 1) := by decide +kernel
theorem d_Search_siftPlaces_347 : decode b_Search_siftPlaces 347 = .ok (.iconst 2, 1) := by decide +kernel
theorem d_Search_siftPlaces_348 : decode b_Search_siftPlaces 348 = .ok (.idiv, 1) := by decide +kernel
theorem d_Search_siftPlaces_349 : decode b_Search_siftPlaces 349 = .ok (.istore 11, 2) := by decide +kernel
theorem d_Search_siftPlaces_351 : decode b_Search_siftPlaces 351 = .ok (.aload_n 0, 1) := by decide +kernel
theorem d_Search_siftPlaces_352 : decode b_Search_siftPlaces 352 = .ok (.iload_n 1, 1) := by decide +kernel
theorem d_Search_siftPlaces_353 : decode b_Search_siftPlaces 353 = .ok (.iload 9, 2) := by decide +kernel
theorem d_Search_siftPlaces_355 : decode b_Search_siftPlaces 355 = .ok (.iload_n 3, 1) := by decide +kernel
theorem d_Search_siftPlaces_356 : decode b_Search_siftPlaces 356 = .ok (.iload 4, 2) := by decide +kernel
theorem d_Search_siftPlaces_358 : decode b_Search_siftPlaces 358 = .ok (.iload 10, 2) := by decide +kernel
theorem d_Search_siftPlaces_360 : decode b_Search_siftPlaces 360 = .ok (.iload 11, 2) := by decide +kernel
theorem d_Search_siftPlaces_362 : decode b_Search_siftPlaces 362 = .ok (.iload 7, 2) := by decide +kernel
theorem d_Search_siftPlaces_364 : decode b_Search_siftPlaces 364 = .ok (.iconst 1, 1) := by decide +kernel
theorem d_Search_siftPlaces_365 : decode b_Search_siftPlaces 365 = .ok (.iadd, 1) := by decide +kernel
theorem d_Search_siftPlaces_366 : decode b_Search_siftPlaces 366 = .ok (.invokevirtual 111, 3) := by decide +kernel
theorem d_Search_siftPlaces_369 : decode b_Search_siftPlaces 369 = .ok (.aload_n 0, 1) := by decide +kernel
theorem d_Search_siftPlaces_370 : decode b_Search_siftPlaces 370 = .ok (.iload_n 1, 1) := by decide +kernel
theorem d_Search_siftPlaces_371 : decode b_Search_siftPlaces 371 = .ok (.iload 9, 2) := by decide +kernel
theorem d_Search_siftPlaces_373 : decode b_Search_siftPlaces 373 = .ok (.iload 10, 2) := by decide +kernel
theorem d_Search_siftPlaces_375 : decode b_Search_siftPlaces 375 = .ok (.iconst 1, 1) := by decide +kernel
theorem d_Search_siftPlaces_376 : decode b_Search_siftPlaces 376 = .ok (.iadd, 1) := by decide +kernel
theorem d_Search_siftPlaces_377 : decode b_Search_siftPlaces 377 = .ok (.iload 4, 2) := by decide +kernel
theorem d_Search_siftPlaces_379 : decode b_Search_siftPlaces 379 = .ok (.iload 5, 2) := by decide +kernel
theorem d_Search_siftPlaces_381 : decode b_Search_siftPlaces 381 = .ok (.iload 11, 2) := by decide +kernel
theorem d_Search_siftPlaces_383 : decode b_Search_siftPlaces 383 = .ok (.iload 7, 2) := by decide +kernel
theorem d_Search_siftPlaces_385 : decode b_Search_siftPlaces 385 = .ok (.iconst 1, 1) := by decide +kernel
theorem d_Search_siftPlaces_386 : decode b_Search_siftPlaces 386 = .ok (.iadd, 1) := by decide +kernel
theorem d_Search_siftPlaces_387 : decode b_Search_siftPlaces 387 = .ok (.invokevirtual 111, 3) := by decide +kernel
theorem d_Search_siftPlaces_390 : decode b_Search_siftPlaces 390 = .ok (.aload_n 0, 1) := by decide +kernel
theorem d_Search_siftPlaces_391 : decode b_Search_siftPlaces 391 = .ok (.iload_n 1, 1) := by decide +kernel
theorem d_Search_siftPlaces_392 : decode b_Search_siftPlaces 392 = .ok (.iload 9, 2) := by decide +kernel
theorem d_Search_siftPlaces_394 : decode b_Search_siftPlaces 394 = .ok (.iload_n 3, 1) := by decide +kernel
theorem d_Search_siftPlaces_395 : decode b_Search_siftPlaces 395 = .ok (.iload 11, 2) := by decide +kernel
theorem d_Search_siftPlaces_397 : decode b_Search_siftPlaces 397 = .ok (.iconst 1, 1) := by decide +kernel
theorem d_Search_siftPlaces_398 : decode b_Search_siftPlaces 398 = .ok (.iadd, 1) := by decide +kernel
theorem d_Search_siftPlaces_399 : decode b_Search_siftPlaces 399 = .ok (.iload 10, 2) := by decide +kernel
theorem d_Search_siftPlaces_401 : decode b_Search_siftPlaces 401 = .ok (.iload 6, 2) := by decide +kernel
theorem d_Search_siftPlaces_403 : decode b_Search_siftPlaces 403 = .ok (.iload 7, 2) := by decide +kernel
theorem d_Search_siftPlaces_405 : decode b_Search_siftPlaces 405 = .ok (.iconst 1, 1) := by decide +kernel
theorem d_Search_siftPlaces_406 : decode b_Search_siftPlaces 406 = .ok (.iadd, 1) := by decide +kernel
theorem d_Search_siftPlaces_407 : decode b_Search_siftPlaces 407 = .ok (.invokevirtual 111, 3) := by decide +kernel
theorem d_Search_siftPlaces_410 : decode b_Search_siftPlaces 410 = .ok (.aload_n 0, 1) := by decide +kernel
theorem d_Search_siftPlaces_411 : decode b_Search_siftPlaces 411 = .ok (.iload_n 1, 1) := by decide +kernel
theorem d_Search_siftPlaces_412 : decode b_Search_siftPlaces 412 = .ok (.iload 9, 2) := by decide +kernel
theorem d_Search_siftPlaces_414 : decode b_Search_siftPlaces 414 = .ok (.iload 10, 2) := by decide +kernel
theorem d_Search_siftPlaces_416 : decode b_Search_siftPlaces 416 = .ok (.iconst 1, 1) := by decide +kernel
theorem d_Search_siftPlaces_417 : decode b_Search_siftPlaces 417 = .ok (.iadd, 1) := by decide +kernel
theorem d_Search_siftPlaces_418 : decode b_Search_siftPlaces 418 = .ok (.iload 11, 2) := by decide +kernel
theorem d_Search_siftPlaces_420 : decode b_Search_siftPlaces 420 = .ok (.iconst 1, 1) := by decide +kernel
theorem d_Search_siftPlaces_421 : decode b_Search_siftPlaces 421 = .ok (.iadd, 1) := by decide +kernel
theorem d_Search_siftPlaces_422 : decode b_Search_siftPlaces 422 = .ok (.iload 5, 2) := by decide +kernel
theorem d_Search_siftPlaces_424 : decode b_Search_siftPlaces 424 = .ok (.iload 6, 2) := by decide +kernel
theorem d_Search_siftPlaces_426 : decode b_Search_siftPlaces 426 = .ok (.iload 7, 2) := by decide +kernel
theorem d_Search_siftPlaces_428 : decode b_Search_siftPlaces 428 = .ok (.iconst 1, 1) := by decide +kernel
theorem d_Search_siftPlaces_429 : decode b_Search_siftPlaces 429 = .ok (.iadd, 1) := by decide +kernel
theorem d_Search_siftPlaces_430 : decode b_Search_siftPlaces 430 = .ok (.invokevirtual 111, 3) := by decide +kernel
theorem d_Search_siftPlaces_433 : decode b_Search_siftPlaces 433 = .ok (.return_, 1) := by decide +kernel
theorem d_Search_withCorner_0 : decode b_Search_withCorner 0 = .ok (.iload_n 3, 1) := by decide +kernel
theorem d_Search_withCorner_1 : decode b_Search_withCorner 1 = .ok (.istore 4, 2) := by decide +kernel
theorem d_Search_withCorner_3 : decode b_Search_withCorner 3 = .ok (.iconst 3, 1) := by decide +kernel
theorem d_Search_withCorner_4 : decode b_Search_withCorner 4 = .ok (.istore 5, 2) := by decide +kernel
theorem d_Search_withCorner_6 : decode b_Search_withCorner 6 = .ok (.iload 5, 2) := by decide +kernel
theorem d_Search_withCorner_8 : decode b_Search_withCorner 8 = .ok (.iconst 5, 1) := by decide +kernel
theorem d_Search_withCorner_9 : decode b_Search_withCorner 9 = .ok (.if_icmp .gt 53, 3) := by decide +kernel
theorem d_Search_withCorner_12 : decode b_Search_withCorner 12 = .ok (.iload_n 1, 1) := by decide +kernel
theorem d_Search_withCorner_13 : decode b_Search_withCorner 13 = .ok (.iload 5, 2) := by decide +kernel
theorem d_Search_withCorner_15 : decode b_Search_withCorner 15 = .ok (.iadd, 1) := by decide +kernel
theorem d_Search_withCorner_16 : decode b_Search_withCorner 16 = .ok (.iconst 3, 1) := by decide +kernel
theorem d_Search_withCorner_17 : decode b_Search_withCorner 17 = .ok (.iand, 1) := by decide +kernel
theorem d_Search_withCorner_18 : decode b_Search_withCorner 18 = .ok (.istore 6, 2) := by decide +kernel
theorem d_Search_withCorner_20 : decode b_Search_withCorner 20 = .ok (.aload_n 0, 1) := by decide +kernel
theorem d_Search_withCorner_21 : decode b_Search_withCorner 21 = .ok (.getfield 25, 3) := by decide +kernel
theorem d_Search_withCorner_24 : decode b_Search_withCorner 24 = .ok (.iload 6, 2) := by decide +kernel
theorem d_Search_withCorner_26 : decode b_Search_withCorner 26 = .ok (.dup2, 1) := by decide +kernel
theorem d_Search_withCorner_27 : decode b_Search_withCorner 27 = .ok (.iaload, 1) := by decide +kernel
theorem d_Search_withCorner_28 : decode b_Search_withCorner 28 = .ok (.iload_n 2, 1) := by decide +kernel
theorem d_Search_withCorner_29 : decode b_Search_withCorner 29 = .ok (.iadd, 1) := by decide +kernel
theorem d_Search_withCorner_30 : decode b_Search_withCorner 30 = .ok (.iastore, 1) := by decide +kernel
theorem d_Search_withCorner_31 : decode b_Search_withCorner 31 = .ok (.aload_n 0, 1) := by decide +kernel
theorem d_Search_withCorner_32 : decode b_Search_withCorner 32 = .ok (.getfield 25, 3) := by decide +kernel
theorem d_Search_withCorner_35 : decode b_Search_withCorner 35 = .ok (.iload 6, 2) := by decide +kernel
theorem d_Search_withCorner_37 : decode b_Search_withCorner 37 = .ok (.iaload, 1) := by decide +kernel
theorem d_Search_withCorner_38 : decode b_Search_withCorner 38 = .ok (.aload_n 0, 1) := by decide +kernel
theorem d_Search_withCorner_39 : decode b_Search_withCorner 39 = .ok (.getfield 37, 3) := by decide +kernel
theorem d_Search_withCorner_42 : decode b_Search_withCorner 42 = .ok (.if_icmp .le 14, 3) := by decide +kernel
theorem d_Search_withCorner_45 : decode b_Search_withCorner 45 = .ok (.iload 4, 2) := by decide +kernel
theorem d_Search_withCorner_47 : decode b_Search_withCorner 47 = .ok (.iconst 1, 1) := by decide +kernel
theorem d_Search_withCorner_48 : decode b_Search_withCorner 48 = .ok (.iload 6, 2) := by decide +kernel
theorem d_Search_withCorner_50 : decode b_Search_withCorner 50 = .ok (.ishl, 1) := by decide +kernel
theorem d_Search_withCorner_51 : decode b_Search_withCorner 51 = .ok (.iconst (-1), 1) := by decide +kernel
theorem d_Search_withCorner_52 : decode b_Search_withCorner 52 = .ok (.ixor, 1) := by decide +kernel
theorem d_Search_withCorner_53 : decode b_Search_withCorner 53 = .ok (.iand, 1) := by decide +kernel
theorem d_Search_withCorner_54 : decode b_Search_withCorner 54 = .ok (.istore 4, 2) := by decide +kernel
theorem d_Search_withCorner_56 : decode b_Search_withCorner 56 = .ok (.iinc 5 1, 3) := by decide +kernel
theorem d_Search_withCorner_59 : decode b_Search_withCorner 59 = .ok (.goto (-53), 3) := by decide +kernel
theorem d_Search_withCorner_62 : decode b_Search_withCorner 62 = .ok (.iload 4, 2) := by decide +kernel
theorem d_Search_withCorner_64 : decode b_Search_withCorner 64 = .ok (.ireturn, 1) := by decide +kernel
theorem d_Search_judge_0 : decode b_Search_judge 0 = .ok (.aload_n 0, 1) := by decide +kernel
theorem d_Search_judge_1 : decode b_Search_judge 1 = .ok (.getfield 98, 3) := by decide +kernel
theorem d_Search_judge_4 : decode b_Search_judge 4 = .ok (.bipush 17, 2) := by decide +kernel
theorem d_Search_judge_6 : decode b_Search_judge 6 = .ok (.isub, 1) := by decide +kernel
theorem d_Search_judge_7 : decode b_Search_judge 7 = .ok (.iconst 4, 1) := by decide +kernel
theorem d_Search_judge_8 : decode b_Search_judge 8 = .ok (.idiv, 1) := by decide +kernel
theorem d_Search_judge_9 : decode b_Search_judge 9 = .ok (.istore_n 2, 1) := by decide +kernel
theorem d_Search_judge_10 : decode b_Search_judge 10 = .ok (.iconst 0, 1) := by decide +kernel
theorem d_Search_judge_11 : decode b_Search_judge 11 = .ok (.istore_n 3, 1) := by decide +kernel
theorem d_Search_judge_12 : decode b_Search_judge 12 = .ok (.iload_n 3, 1) := by decide +kernel
theorem d_Search_judge_13 : decode b_Search_judge 13 = .ok (.iconst 4, 1) := by decide +kernel
theorem d_Search_judge_14 : decode b_Search_judge 14 = .ok (.if_icmp .ge 93, 3) := by decide +kernel
theorem d_Search_judge_17 : decode b_Search_judge 17 = .ok (.iload_n 1, 1) := by decide +kernel
theorem d_Search_judge_18 : decode b_Search_judge 18 = .ok (.iload_n 3, 1) := by decide +kernel
theorem d_Search_judge_19 : decode b_Search_judge 19 = .ok (.ishr, 1) := by decide +kernel
theorem d_Search_judge_20 : decode b_Search_judge 20 = .ok (.iconst 1, 1) := by decide +kernel
theorem d_Search_judge_21 : decode b_Search_judge 21 = .ok (.iand, 1) := by decide +kernel
theorem d_Search_judge_22 : decode b_Search_judge 22 = .ok (.ifCond .eq 79, 3) := by decide +kernel
theorem d_Search_judge_25 : decode b_Search_judge 25 = .ok (.aload_n 0, 1) := by decide +kernel
theorem d_Search_judge_26 : decode b_Search_judge 26 = .ok (.iload_n 3, 1) := by decide +kernel
theorem d_Search_judge_27 : decode b_Search_judge 27 = .ok (.iconst 3, 1) := by decide +kernel
theorem d_Search_judge_28 : decode b_Search_judge 28 = .ok (.iadd, 1) := by decide +kernel
theorem d_Search_judge_29 : decode b_Search_judge 29 = .ok (.iconst 3, 1) := by decide +kernel
theorem d_Search_judge_30 : decode b_Search_judge 30 = .ok (.iand, 1) := by decide +kernel
theorem d_Search_judge_31 : decode b_Search_judge 31 = .ok (.aload_n 0, 1) := by decide +kernel
theorem d_Search_judge_32 : decode b_Search_judge 32 = .ok (.iload_n 3, 1) := by decide +kernel
theorem d_Search_judge_33 : decode b_Search_judge 33 = .ok (.aload_n 0, 1) := by decide +kernel
theorem d_Search_judge_34 : decode b_Search_judge 34 = .ok (.getfield 25, 3) := by decide +kernel
theorem d_Search_judge_37 : decode b_Search_judge 37 = .ok (.iload_n 3, 1) := by decide +kernel
theorem d_Search_judge_38 : decode b_Search_judge 38 = .ok (.iaload, 1) := by decide +kernel
theorem d_Search_judge_39 : decode b_Search_judge 39 = .ok (.invokevirtual 143, 3) := by decide +kernel
theorem d_Search_judge_42 : decode b_Search_judge 42 = .ok (.invokevirtual 143, 3) := by decide +kernel
theorem d_Search_judge_45 : decode b_Search_judge 45 = .ok (.istore 4, 2) := by decide +kernel
theorem d_Search_judge_47 : decode b_Search_judge 47 = .ok (.aload_n 0, 1) := by decide +kernel
theorem d_Search_judge_48 : decode b_Search_judge 48 = .ok (.getfield 146, 3) := by decide +kernel
theorem d_Search_judge_51 : decode b_Search_judge 51 = .ok (.aload_n 0, 1) := by decide +kernel
theorem d_Search_judge_52 : decode b_Search_judge 52 = .ok (.getfield 149, 3) := by decide +kernel
theorem d_Search_judge_55 : decode b_Search_judge 55 = .ok (.aload_n 0, 1) := by decide +kernel
theorem d_Search_judge_56 : decode b_Search_judge 56 = .ok (.getfield 66, 3) := by decide +kernel
theorem d_Search_judge_59 : decode b_Search_judge 59 = .ok (.bipush 8, 2) := by decide +kernel
theorem d_Search_judge_61 : decode b_Search_judge 61 = .ok (.ishl, 1) := by decide +kernel
theorem d_Search_judge_62 : decode b_Search_judge 62 = .ok (.iload_n 2, 1) := by decide +kernel
theorem d_Search_judge_63 : decode b_Search_judge 63 = .ok (.iconst 2, 1) := by decide +kernel
theorem d_Search_judge_64 : decode b_Search_judge 64 = .ok (.ishl, 1) := by decide +kernel
theorem d_Search_judge_65 : decode b_Search_judge 65 = .ok (.ior, 1) := by decide +kernel
theorem d_Search_judge_66 : decode b_Search_judge 66 = .ok (.iload_n 3, 1) := by decide +kernel
theorem d_Search_judge_67 : decode b_Search_judge 67 = .ok (.ior, 1) := by decide +kernel
theorem d_Search_judge_68 : decode b_Search_judge 68 = .ok (.invokestatic 152, 3) := by decide +kernel
theorem d_Search_judge_71 : decode b_Search_judge 71 = .ok (.istore 5, 2) := by decide +kernel
theorem d_Search_judge_73 : decode b_Search_judge 73 = .ok (.iload 4, 2) := by decide +kernel
theorem d_Search_judge_75 : decode b_Search_judge 75 = .ok (.aload_n 0, 1) := by decide +kernel
theorem d_Search_judge_76 : decode b_Search_judge 76 = .ok (.getfield 37, 3) := by decide +kernel
theorem d_Search_judge_79 : decode b_Search_judge 79 = .ok (.if_icmp .gt 22, 3) := by decide +kernel
theorem d_Search_judge_82 : decode b_Search_judge 82 = .ok (.aload_n 0, 1) := by decide +kernel
theorem d_Search_judge_83 : decode b_Search_judge 83 = .ok (.getfield 21, 3) := by decide +kernel
theorem d_Search_judge_86 : decode b_Search_judge 86 = .ok (.iload 5, 2) := by decide +kernel
theorem d_Search_judge_88 : decode b_Search_judge 88 = .ok (.iload 4, 2) := by decide +kernel
theorem d_Search_judge_90 : decode b_Search_judge 90 = .ok (.invokevirtual 155, 3) := by decide +kernel
theorem d_Search_judge_93 : decode b_Search_judge 93 = .ok (.ifCond .ne 8, 3) := by decide +kernel
theorem d_Search_judge_96 : decode b_Search_judge 96 = .ok (.aload_n 0, 1) := by decide +kernel
theorem d_Search_judge_97 : decode b_Search_judge 97 = .ok (.iconst 1, 1) := by decide +kernel
theorem d_Search_judge_98 : decode b_Search_judge 98 = .ok (.putfield 44, 3) := by decide +kernel
theorem d_Search_judge_101 : decode b_Search_judge 101 = .ok (.iinc 3 1, 3) := by decide +kernel
theorem d_Search_judge_104 : decode b_Search_judge 104 = .ok (.goto (-92), 3) := by decide +kernel
theorem d_Search_judge_107 : decode b_Search_judge 107 = .ok (.return_, 1) := by decide +kernel
theorem d_Search_takeTile_0 : decode b_Search_takeTile 0 = .ok (.aload_n 0, 1) := by decide +kernel
theorem d_Search_takeTile_1 : decode b_Search_takeTile 1 = .ok (.iload_n 1, 1) := by decide +kernel
theorem d_Search_takeTile_2 : decode b_Search_takeTile 2 = .ok (.putfield 146, 3) := by decide +kernel
theorem d_Search_takeTile_5 : decode b_Search_takeTile 5 = .ok (.aload_n 0, 1) := by decide +kernel
theorem d_Search_takeTile_6 : decode b_Search_takeTile 6 = .ok (.iload_n 2, 1) := by decide +kernel
theorem d_Search_takeTile_7 : decode b_Search_takeTile 7 = .ok (.putfield 149, 3) := by decide +kernel
theorem d_Search_takeTile_10 : decode b_Search_takeTile 10 = .ok (.aload_n 0, 1) := by decide +kernel
theorem d_Search_takeTile_11 : decode b_Search_takeTile 11 = .ok (.iload_n 3, 1) := by decide +kernel
theorem d_Search_takeTile_12 : decode b_Search_takeTile 12 = .ok (.iload_n 1, 1) := by decide +kernel
theorem d_Search_takeTile_13 : decode b_Search_takeTile 13 = .ok (.isub, 1) := by decide +kernel
theorem d_Search_takeTile_14 : decode b_Search_takeTile 14 = .ok (.putfield 159, 3) := by decide +kernel
theorem d_Search_takeTile_17 : decode b_Search_takeTile 17 = .ok (.aload_n 0, 1) := by decide +kernel
theorem d_Search_takeTile_18 : decode b_Search_takeTile 18 = .ok (.iload 4, 2) := by decide +kernel
theorem d_Search_takeTile_20 : decode b_Search_takeTile 20 = .ok (.iload_n 2, 1) := by decide +kernel
theorem d_Search_takeTile_21 : decode b_Search_takeTile 21 = .ok (.isub, 1) := by decide +kernel
theorem d_Search_takeTile_22 : decode b_Search_takeTile 22 = .ok (.putfield 162, 3) := by decide +kernel
theorem d_Search_takeTile_25 : decode b_Search_takeTile 25 = .ok (.return_, 1) := by decide +kernel
theorem d_Search_isSingle_0 : decode b_Search_isSingle 0 = .ok (.aload_n 0, 1) := by decide +kernel
theorem d_Search_isSingle_1 : decode b_Search_isSingle 1 = .ok (.getfield 159, 3) := by decide +kernel
theorem d_Search_isSingle_4 : decode b_Search_isSingle 4 = .ok (.ifCond .ne 14, 3) := by decide +kernel
theorem d_Search_isSingle_7 : decode b_Search_isSingle 7 = .ok (.aload_n 0, 1) := by decide +kernel
theorem d_Search_isSingle_8 : decode b_Search_isSingle 8 = .ok (.getfield 162, 3) := by decide +kernel
theorem d_Search_isSingle_11 : decode b_Search_isSingle 11 = .ok (.ifCond .ne 7, 3) := by decide +kernel
theorem d_Search_isSingle_14 : decode b_Search_isSingle 14 = .ok (.iconst 1, 1) := by decide +kernel
theorem d_Search_isSingle_15 : decode b_Search_isSingle 15 = .ok (.goto 4, 3) := by decide +kernel
theorem d_Search_isSingle_18 : decode b_Search_isSingle 18 = .ok (.iconst 0, 1) := by decide +kernel
theorem d_Search_isSingle_19 : decode b_Search_isSingle 19 = .ok (.ireturn, 1) := by decide +kernel
theorem d_Search_isAlike_0 : decode b_Search_isAlike 0 = .ok (.iload_n 3, 1) := by decide +kernel
theorem d_Search_isAlike_1 : decode b_Search_isAlike 1 = .ok (.aload_n 0, 1) := by decide +kernel
theorem d_Search_isAlike_2 : decode b_Search_isAlike 2 = .ok (.getfield 159, 3) := by decide +kernel
theorem d_Search_isAlike_5 : decode b_Search_isAlike 5 = .ok (.iadd, 1) := by decide +kernel
theorem d_Search_isAlike_6 : decode b_Search_isAlike 6 = .ok (.istore 4, 2) := by decide +kernel
theorem d_Search_isAlike_8 : decode b_Search_isAlike 8 = .ok (.iload_n 3, 1) := by decide +kernel
theorem d_Search_isAlike_9 : decode b_Search_isAlike 9 = .ok (.aload_n 0, 1) := by decide +kernel
theorem d_Search_isAlike_10 : decode b_Search_isAlike 10 = .ok (.getfield 162, 3) := by decide +kernel
theorem d_Search_isAlike_13 : decode b_Search_isAlike 13 = .ok (.iadd, 1) := by decide +kernel
theorem d_Search_isAlike_14 : decode b_Search_isAlike 14 = .ok (.istore 5, 2) := by decide +kernel
theorem d_Search_isAlike_16 : decode b_Search_isAlike 16 = .ok (.aload_n 0, 1) := by decide +kernel
theorem d_Search_isAlike_17 : decode b_Search_isAlike 17 = .ok (.getfield 12, 3) := by decide +kernel
theorem d_Search_isAlike_20 : decode b_Search_isAlike 20 = .ok (.iload_n 1, 1) := by decide +kernel
theorem d_Search_isAlike_21 : decode b_Search_isAlike 21 = .ok (.iload_n 2, 1) := by decide +kernel
theorem d_Search_isAlike_22 : decode b_Search_isAlike 22 = .ok (.iload 4, 2) := by decide +kernel
theorem d_Search_isAlike_24 : decode b_Search_isAlike 24 = .ok (.iload 5, 2) := by decide +kernel
theorem d_Search_isAlike_26 : decode b_Search_isAlike 26 = .ok (.invokevirtual 165, 3) := by decide +kernel
theorem d_Search_isAlike_29 : decode b_Search_isAlike 29 = .ok (.istore 6, 2) := by decide +kernel
theorem d_Search_isAlike_31 : decode b_Search_isAlike 31 = .ok (.iload 6, 2) := by decide +kernel
theorem d_Search_isAlike_33 : decode b_Search_isAlike 33 = .ok (.ifCond .eq 13, 3) := by decide +kernel
theorem d_Search_isAlike_36 : decode b_Search_isAlike 36 = .ok (.iload 6, 2) := by decide +kernel
theorem d_Search_isAlike_38 : decode b_Search_isAlike 38 = .ok (.iload 4, 2) := by decide +kernel
theorem d_Search_isAlike_40 : decode b_Search_isAlike 40 = .ok (.iload 5, 2) := by decide +kernel
theorem d_Search_isAlike_42 : decode b_Search_isAlike 42 = .ok (.imul, 1) := by decide +kernel
theorem d_Search_isAlike_43 : decode b_Search_isAlike 43 = .ok (.if_icmp .ne 7, 3) := by decide +kernel
theorem d_Search_isAlike_46 : decode b_Search_isAlike 46 = .ok (.iconst 1, 1) := by decide +kernel
theorem d_Search_isAlike_47 : decode b_Search_isAlike 47 = .ok (.goto 4, 3) := by decide +kernel
theorem d_Search_isAlike_50 : decode b_Search_isAlike 50 = .ok (.iconst 0, 1) := by decide +kernel
theorem d_Search_isAlike_51 : decode b_Search_isAlike 51 = .ok (.ireturn, 1) := by decide +kernel
theorem d_Search_isRight_0 : decode b_Search_isRight 0 = .ok (.iload_n 0, 1) := by decide +kernel
theorem d_Search_isRight_1 : decode b_Search_isRight 1 = .ok (.iconst 1, 1) := by decide +kernel
theorem d_Search_isRight_2 : decode b_Search_isRight 2 = .ok (.if_icmp .eq 8, 3) := by decide +kernel
theorem d_Search_isRight_5 : decode b_Search_isRight 5 = .ok (.iload_n 0, 1) := by decide +kernel
theorem d_Search_isRight_6 : decode b_Search_isRight 6 = .ok (.iconst 2, 1) := by decide +kernel
theorem d_Search_isRight_7 : decode b_Search_isRight 7 = .ok (.if_icmp .ne 7, 3) := by decide +kernel
theorem d_Search_isRight_10 : decode b_Search_isRight 10 = .ok (.iconst 1, 1) := by decide +kernel
theorem d_Search_isRight_11 : decode b_Search_isRight 11 = .ok (.goto 4, 3) := by decide +kernel
theorem d_Search_isRight_14 : decode b_Search_isRight 14 = .ok (.iconst 0, 1) := by decide +kernel
theorem d_Search_isRight_15 : decode b_Search_isRight 15 = .ok (.ireturn, 1) := by decide +kernel
theorem d_Search_isLow_0 : decode b_Search_isLow 0 = .ok (.iload_n 0, 1) := by decide +kernel
theorem d_Search_isLow_1 : decode b_Search_isLow 1 = .ok (.iconst 2, 1) := by decide +kernel
theorem d_Search_isLow_2 : decode b_Search_isLow 2 = .ok (.if_icmp .lt 7, 3) := by decide +kernel
theorem d_Search_isLow_5 : decode b_Search_isLow 5 = .ok (.iconst 1, 1) := by decide +kernel
theorem d_Search_isLow_6 : decode b_Search_isLow 6 = .ok (.goto 4, 3) := by decide +kernel
theorem d_Search_isLow_9 : decode b_Search_isLow 9 = .ok (.iconst 0, 1) := by decide +kernel
theorem d_Search_isLow_10 : decode b_Search_isLow 10 = .ok (.ireturn, 1) := by decide +kernel
theorem d_Search_finderX_0 : decode b_Search_finderX 0 = .ok (.aload_n 0, 1) := by decide +kernel
theorem d_Search_finderX_1 : decode b_Search_finderX 1 = .ok (.getfield 146, 3) := by decide +kernel
theorem d_Search_finderX_4 : decode b_Search_finderX 4 = .ok (.iload_n 1, 1) := by decide +kernel
theorem d_Search_finderX_5 : decode b_Search_finderX 5 = .ok (.invokestatic 101, 3) := by decide +kernel
theorem d_Search_finderX_8 : decode b_Search_finderX 8 = .ok (.ifCond .eq 18, 3) := by decide +kernel
theorem d_Search_finderX_11 : decode b_Search_finderX 11 = .ok (.aload_n 0, 1) := by decide +kernel
theorem d_Search_finderX_12 : decode b_Search_finderX 12 = .ok (.getfield 98, 3) := by decide +kernel
theorem d_Search_finderX_15 : decode b_Search_finderX 15 = .ok (.bipush 7, 2) := by decide +kernel
theorem d_Search_finderX_17 : decode b_Search_finderX 17 = .ok (.isub, 1) := by decide +kernel
theorem d_Search_finderX_18 : decode b_Search_finderX 18 = .ok (.aload_n 0, 1) := by decide +kernel
theorem d_Search_finderX_19 : decode b_Search_finderX 19 = .ok (.getfield 66, 3) := by decide +kernel
theorem d_Search_finderX_22 : decode b_Search_finderX 22 = .ok (.imul, 1) := by decide +kernel
theorem d_Search_finderX_23 : decode b_Search_finderX 23 = .ok (.goto 4, 3) := by decide +kernel
theorem d_Search_finderX_26 : decode b_Search_finderX 26 = .ok (.iconst 0, 1) := by decide +kernel
theorem d_Search_finderX_27 : decode b_Search_finderX 27 = .ok (.iadd, 1) := by decide +kernel
theorem d_Search_finderX_28 : decode b_Search_finderX 28 = .ok (.ireturn, 1) := by decide +kernel
theorem d_Search_finderY_0 : decode b_Search_finderY 0 = .ok (.aload_n 0, 1) := by decide +kernel
theorem d_Search_finderY_1 : decode b_Search_finderY 1 = .ok (.getfield 149, 3) := by decide +kernel
theorem d_Search_finderY_4 : decode b_Search_finderY 4 = .ok (.iload_n 1, 1) := by decide +kernel
theorem d_Search_finderY_5 : decode b_Search_finderY 5 = .ok (.invokestatic 105, 3) := by decide +kernel
theorem d_Search_finderY_8 : decode b_Search_finderY 8 = .ok (.ifCond .eq 18, 3) := by decide +kernel
theorem d_Search_finderY_11 : decode b_Search_finderY 11 = .ok (.aload_n 0, 1) := by decide +kernel
theorem d_Search_finderY_12 : decode b_Search_finderY 12 = .ok (.getfield 98, 3) := by decide +kernel
theorem d_Search_finderY_15 : decode b_Search_finderY 15 = .ok (.bipush 7, 2) := by decide +kernel
theorem d_Search_finderY_17 : decode b_Search_finderY 17 = .ok (.isub, 1) := by decide +kernel
theorem d_Search_finderY_18 : decode b_Search_finderY 18 = .ok (.aload_n 0, 1) := by decide +kernel
theorem d_Search_finderY_19 : decode b_Search_finderY 19 = .ok (.getfield 66, 3) := by decide +kernel
theorem d_Search_finderY_22 : decode b_Search_finderY 22 = .ok (.imul, 1) := by decide +kernel
theorem d_Search_finderY_23 : decode b_Search_finderY 23 = .ok (.goto 4, 3) := by decide +kernel
theorem d_Search_finderY_26 : decode b_Search_finderY 26 = .ok (.iconst 0, 1) := by decide +kernel
theorem d_Search_finderY_27 : decode b_Search_finderY 27 = .ok (.iadd, 1) := by decide +kernel
theorem d_Search_finderY_28 : decode b_Search_finderY 28 = .ok (.ireturn, 1) := by decide +kernel
theorem d_Search_cornerWrong_0 : decode b_Search_cornerWrong 0 = .ok (.aload_n 0, 1) := by decide +kernel
theorem d_Search_cornerWrong_1 : decode b_Search_cornerWrong 1 = .ok (.getfield 66, 3) := by decide +kernel
theorem d_Search_cornerWrong_4 : decode b_Search_cornerWrong 4 = .ok (.istore 4, 2) := by decide +kernel
theorem d_Search_cornerWrong_6 : decode b_Search_cornerWrong 6 = .ok (.iload_n 1, 1) := by decide +kernel
theorem d_Search_cornerWrong_7 : decode b_Search_cornerWrong 7 = .ok (.invokestatic 101, 3) := by decide +kernel
theorem d_Search_cornerWrong_10 : decode b_Search_cornerWrong 10 = .ok (.ifCond .eq 10, 3) := by decide +kernel
theorem d_Search_cornerWrong_13 : decode b_Search_cornerWrong 13 = .ok (.iload_n 2, 1) := by decide +kernel
theorem d_Search_cornerWrong_14 : decode b_Search_cornerWrong 14 = .ok (.iload 4, 2) := by decide +kernel
theorem d_Search_cornerWrong_16 : decode b_Search_cornerWrong 16 = .ok (.isub, 1) := by decide +kernel
theorem d_Search_cornerWrong_17 : decode b_Search_cornerWrong 17 = .ok (.goto 4, 3) := by decide +kernel
theorem d_Search_cornerWrong_20 : decode b_Search_cornerWrong 20 = .ok (.iload_n 2, 1) := by decide +kernel
theorem d_Search_cornerWrong_21 : decode b_Search_cornerWrong 21 = .ok (.istore 5, 2) := by decide +kernel
theorem d_Search_cornerWrong_23 : decode b_Search_cornerWrong 23 = .ok (.iload_n 1, 1) := by decide +kernel
theorem d_Search_cornerWrong_24 : decode b_Search_cornerWrong 24 = .ok (.invokestatic 105, 3) := by decide +kernel
theorem d_Search_cornerWrong_27 : decode b_Search_cornerWrong 27 = .ok (.ifCond .eq 10, 3) := by decide +kernel
theorem d_Search_cornerWrong_30 : decode b_Search_cornerWrong 30 = .ok (.iload_n 3, 1) := by decide +kernel
theorem d_Search_cornerWrong_31 : decode b_Search_cornerWrong 31 = .ok (.iload 4, 2) := by decide +kernel
theorem d_Search_cornerWrong_33 : decode b_Search_cornerWrong 33 = .ok (.isub, 1) := by decide +kernel
theorem d_Search_cornerWrong_34 : decode b_Search_cornerWrong 34 = .ok (.goto 4, 3) := by decide +kernel
theorem d_Search_cornerWrong_37 : decode b_Search_cornerWrong 37 = .ok (.iload_n 3, 1) := by decide +kernel
theorem d_Search_cornerWrong_38 : decode b_Search_cornerWrong 38 = .ok (.istore 6, 2) := by decide +kernel
theorem d_Search_cornerWrong_40 : decode b_Search_cornerWrong 40 = .ok (.iload 5, 2) := by decide +kernel
theorem d_Search_cornerWrong_42 : decode b_Search_cornerWrong 42 = .ok (.ifCond .lt 44, 3) := by decide +kernel
theorem d_Search_cornerWrong_45 : decode b_Search_cornerWrong 45 = .ok (.iload 6, 2) := by decide +kernel
theorem d_Search_cornerWrong_47 : decode b_Search_cornerWrong 47 = .ok (.ifCond .lt 39, 3) := by decide +kernel
theorem d_Search_cornerWrong_50 : decode b_Search_cornerWrong 50 = .ok (.iload 5, 2) := by decide +kernel
theorem d_Search_cornerWrong_52 : decode b_Search_cornerWrong 52 = .ok (.aload_n 0, 1) := by decide +kernel
theorem d_Search_cornerWrong_53 : decode b_Search_cornerWrong 53 = .ok (.getfield 12, 3) := by decide +kernel
theorem d_Search_cornerWrong_56 : decode b_Search_cornerWrong 56 = .ok (.getfield 48, 3) := by decide +kernel
theorem d_Search_cornerWrong_59 : decode b_Search_cornerWrong 59 = .ok (.bipush 8, 2) := by decide +kernel
theorem d_Search_cornerWrong_61 : decode b_Search_cornerWrong 61 = .ok (.iload 4, 2) := by decide +kernel
theorem d_Search_cornerWrong_63 : decode b_Search_cornerWrong 63 = .ok (.imul, 1) := by decide +kernel
theorem d_Search_cornerWrong_64 : decode b_Search_cornerWrong 64 = .ok (.isub, 1) := by decide +kernel
theorem d_Search_cornerWrong_65 : decode b_Search_cornerWrong 65 = .ok (.if_icmp .gt 21, 3) := by decide +kernel
