theorem dX11_block_190 : decode cX11_block 190 = .ok (.istore 4, 2) := by decide +kernel
theorem dX11_block_192 : decode cX11_block 192 = .ok (.aload_n 0, 1) := by decide +kernel
theorem dX11_block_193 : decode cX11_block 193 = .ok (.getfield 13, 3) := by decide +kernel
theorem dX11_block_196 : decode cX11_block 196 = .ok (.iconst 2, 1) := by decide +kernel
theorem dX11_block_197 : decode cX11_block 197 = .ok (.iaload, 1) := by decide +kernel
theorem dX11_block_198 : decode cX11_block 198 = .ok (.istore 5, 2) := by decide +kernel
theorem dX11_block_200 : decode cX11_block 200 = .ok (.aload_n 0, 1) := by decide +kernel
theorem dX11_block_201 : decode cX11_block 201 = .ok (.getfield 13, 3) := by decide +kernel
theorem dX11_block_204 : decode cX11_block 204 = .ok (.iconst 3, 1) := by decide +kernel
theorem dX11_block_205 : decode cX11_block 205 = .ok (.iaload, 1) := by decide +kernel
theorem dX11_block_206 : decode cX11_block 206 = .ok (.istore 6, 2) := by decide +kernel
theorem dX11_block_208 : decode cX11_block 208 = .ok (.aload_n 0, 1) := by decide +kernel
theorem dX11_block_209 : decode cX11_block 209 = .ok (.getfield 13, 3) := by decide +kernel
theorem dX11_block_212 : decode cX11_block 212 = .ok (.iconst 4, 1) := by decide +kernel
theorem dX11_block_213 : decode cX11_block 213 = .ok (.iaload, 1) := by decide +kernel
theorem dX11_block_214 : decode cX11_block 214 = .ok (.istore 7, 2) := by decide +kernel
theorem dX11_block_216 : decode cX11_block 216 = .ok (.aload_n 0, 1) := by decide +kernel
theorem dX11_block_217 : decode cX11_block 217 = .ok (.getfield 13, 3) := by decide +kernel
theorem dX11_block_220 : decode cX11_block 220 = .ok (.iconst 5, 1) := by decide +kernel
theorem dX11_block_221 : decode cX11_block 221 = .ok (.iaload, 1) := by decide +kernel
theorem dX11_block_222 : decode cX11_block 222 = .ok (.istore 8, 2) := by decide +kernel
theorem dX11_block_224 : decode cX11_block 224 = .ok (.aload_n 0, 1) := by decide +kernel
theorem dX11_block_225 : decode cX11_block 225 = .ok (.getfield 13, 3) := by decide +kernel
theorem dX11_block_228 : decode cX11_block 228 = .ok (.bipush 6, 2) := by decide +kernel
theorem dX11_block_230 : decode cX11_block 230 = .ok (.iaload, 1) := by decide +kernel
theorem dX11_block_231 : decode cX11_block 231 = .ok (.istore 9, 2) := by decide +kernel
theorem dX11_block_233 : decode cX11_block 233 = .ok (.aload_n 0, 1) := by decide +kernel
theorem dX11_block_234 : decode cX11_block 234 = .ok (.getfield 13, 3) := by decide +kernel
theorem dX11_block_237 : decode cX11_block 237 = .ok (.bipush 7, 2) := by decide +kernel
theorem dX11_block_239 : decode cX11_block 239 = .ok (.iaload, 1) := by decide +kernel
theorem dX11_block_240 : decode cX11_block 240 = .ok (.istore 10, 2) := by decide +kernel
theorem dX11_block_242 : decode cX11_block 242 = .ok (.iconst 0, 1) := by decide +kernel
theorem dX11_block_243 : decode cX11_block 243 = .ok (.istore 11, 2) := by decide +kernel
theorem dX11_block_245 : decode cX11_block 245 = .ok (.iload 11, 2) := by decide +kernel
theorem dX11_block_247 : decode cX11_block 247 = .ok (.bipush 64, 2) := by decide +kernel
theorem dX11_block_249 : decode cX11_block 249 = .ok (.if_icmp .ge 140, 3) := by decide +kernel
theorem dX11_block_252 : decode cX11_block 252 = .ok (.iload 10, 2) := by decide +kernel
theorem dX11_block_254 : decode cX11_block 254 = .ok (.iload 7, 2) := by decide +kernel
theorem dX11_block_256 : decode cX11_block 256 = .ok (.bipush 6, 2) := by decide +kernel
theorem dX11_block_258 : decode cX11_block 258 = .ok (.invokestatic 263, 3) := by decide +kernel
theorem dX11_block_261 : decode cX11_block 261 = .ok (.iload 7, 2) := by decide +kernel
theorem dX11_block_263 : decode cX11_block 263 = .ok (.bipush 11, 2) := by decide +kernel
theorem dX11_block_265 : decode cX11_block 265 = .ok (.invokestatic 263, 3) := by decide +kernel
theorem dX11_block_268 : decode cX11_block 268 = .ok (.ixor, 1) := by decide +kernel
theorem dX11_block_269 : decode cX11_block 269 = .ok (.iload 7, 2) := by decide +kernel
theorem dX11_block_271 : decode cX11_block 271 = .ok (.bipush 25, 2) := by decide +kernel
theorem dX11_block_273 : decode cX11_block 273 = .ok (.invokestatic 263, 3) := by decide +kernel
theorem dX11_block_276 : decode cX11_block 276 = .ok (.ixor, 1) := by decide +kernel
theorem dX11_block_277 : decode cX11_block 277 = .ok (.iadd, 1) := by decide +kernel
theorem dX11_block_278 : decode cX11_block 278 = .ok (.iload 7, 2) := by decide +kernel
theorem dX11_block_280 : decode cX11_block 280 = .ok (.iload 8, 2) := by decide +kernel
theorem dX11_block_282 : decode cX11_block 282 = .ok (.iand, 1) := by decide +kernel
theorem dX11_block_283 : decode cX11_block 283 = .ok (.iload 7, 2) := by decide +kernel
theorem dX11_block_285 : decode cX11_block 285 = .ok (.iconst (-1), 1) := by decide +kernel
theorem dX11_block_286 : decode cX11_block 286 = .ok (.ixor, 1) := by decide +kernel
theorem dX11_block_287 : decode cX11_block 287 = .ok (.iload 9, 2) := by decide +kernel
theorem dX11_block_289 : decode cX11_block 289 = .ok (.iand, 1) := by decide +kernel
theorem dX11_block_290 : decode cX11_block 290 = .ok (.ixor, 1) := by decide +kernel
theorem dX11_block_291 : decode cX11_block 291 = .ok (.iadd, 1) := by decide +kernel
theorem dX11_block_292 : decode cX11_block 292 = .ok (.aload_n 0, 1) := by decide +kernel
theorem dX11_block_293 : decode cX11_block 293 = .ok (.getfield 94, 3) := by decide +kernel
theorem dX11_block_296 : decode cX11_block 296 = .ok (.iload 11, 2) := by decide +kernel
theorem dX11_block_298 : decode cX11_block 298 = .ok (.iaload, 1) := by decide +kernel
theorem dX11_block_299 : decode cX11_block 299 = .ok (.iadd, 1) := by decide +kernel
theorem dX11_block_300 : decode cX11_block 300 = .ok (.aload_n 0, 1) := by decide +kernel
theorem dX11_block_301 : decode cX11_block 301 = .ok (.getfield 16, 3) := by decide +kernel
theorem dX11_block_304 : decode cX11_block 304 = .ok (.iload 11, 2) := by decide +kernel
theorem dX11_block_306 : decode cX11_block 306 = .ok (.iaload, 1) := by decide +kernel
theorem dX11_block_307 : decode cX11_block 307 = .ok (.iadd, 1) := by decide +kernel
theorem dX11_block_308 : decode cX11_block 308 = .ok (.istore 12, 2) := by decide +kernel
theorem dX11_block_310 : decode cX11_block 310 = .ok (.iload_n 3, 1) := by decide +kernel
theorem dX11_block_311 : decode cX11_block 311 = .ok (.iconst 2, 1) := by decide +kernel
theorem dX11_block_312 : decode cX11_block 312 = .ok (.invokestatic 263, 3) := by decide +kernel
theorem dX11_block_315 : decode cX11_block 315 = .ok (.iload_n 3, 1) := by decide +kernel
theorem dX11_block_316 : decode cX11_block 316 = .ok (.bipush 13, 2) := by decide +kernel
theorem dX11_block_318 : decode cX11_block 318 = .ok (.invokestatic 263, 3) := by decide +kernel
theorem dX11_block_321 : decode cX11_block 321 = .ok (.ixor, 1) := by decide +kernel
theorem dX11_block_322 : decode cX11_block 322 = .ok (.iload_n 3, 1) := by decide +kernel
theorem dX11_block_323 : decode cX11_block 323 = .ok (.bipush 22, 2) := by decide +kernel
theorem dX11_block_325 : decode cX11_block 325 = .ok (.invokestatic 263, 3) := by decide +kernel
theorem dX11_block_328 : decode cX11_block 328 = .ok (.ixor, 1) := by decide +kernel
theorem dX11_block_329 : decode cX11_block 329 = .ok (.iload_n 3, 1) := by decide +kernel
theorem dX11_block_330 : decode cX11_block 330 = .ok (.iload 4, 2) := by decide +kernel
theorem dX11_block_332 : decode cX11_block 332 = .ok (.iand, 1) := by decide +kernel
theorem dX11_block_333 : decode cX11_block 333 = .ok (.iload_n 3, 1) := by decide +kernel
theorem dX11_block_334 : decode cX11_block 334 = .ok (.iload 5, 2) := by decide +kernel
theorem dX11_block_336 : decode cX11_block 336 = .ok (.iand, 1) := by decide +kernel
theorem dX11_block_337 : decode cX11_block 337 = .ok (.ixor, 1) := by decide +kernel
theorem dX11_block_338 : decode cX11_block 338 = .ok (.iload 4, 2) := by decide +kernel
theorem dX11_block_340 : decode cX11_block 340 = .ok (.iload 5, 2) := by decide +kernel
theorem dX11_block_342 : decode cX11_block 342 = .ok (.iand, 1) := by decide +kernel
theorem dX11_block_343 : decode cX11_block 343 = .ok (.ixor, 1) := by decide +kernel
theorem dX11_block_344 : decode cX11_block 344 = .ok (.iadd, 1) := by decide +kernel
theorem dX11_block_345 : decode cX11_block 345 = .ok (.istore 13, 2) := by decide +kernel
theorem dX11_block_347 : decode cX11_block 347 = .ok (.iload 9, 2) := by decide +kernel
theorem dX11_block_349 : decode cX11_block 349 = .ok (.istore 10, 2) := by decide +kernel
theorem dX11_block_351 : decode cX11_block 351 = .ok (.iload 8, 2) := by decide +kernel
theorem dX11_block_353 : decode cX11_block 353 = .ok (.istore 9, 2) := by decide +kernel
theorem dX11_block_355 : decode cX11_block 355 = .ok (.iload 7, 2) := by decide +kernel
theorem dX11_block_357 : decode cX11_block 357 = .ok (.istore 8, 2) := by decide +kernel
theorem dX11_block_359 : decode cX11_block 359 = .ok (.iload 6, 2) := by decide +kernel
theorem dX11_block_361 : decode cX11_block 361 = .ok (.iload 12, 2) := by decide +kernel
theorem dX11_block_363 : decode cX11_block 363 = .ok (.iadd, 1) := by decide +kernel
theorem dX11_block_364 : decode cX11_block 364 = .ok (.istore 7, 2) := by decide +kernel
theorem dX11_block_366 : decode cX11_block 366 = .ok (.iload 5, 2) := by decide +kernel
theorem dX11_block_368 : decode cX11_block 368 = .ok (.istore 6, 2) := by decide +kernel
theorem dX11_block_370 : decode cX11_block 370 = .ok (.iload 4, 2) := by decide +kernel
theorem dX11_block_372 : decode cX11_block 372 = .ok (.istore 5, 2) := by decide +kernel
theorem dX11_block_374 : decode cX11_block 374 = .ok (.iload_n 3, 1) := by decide +kernel
theorem dX11_block_375 : decode cX11_block 375 = .ok (.istore 4, 2) := by decide +kernel
theorem dX11_block_377 : decode cX11_block 377 = .ok (.iload 12, 2) := by decide +kernel
theorem dX11_block_379 : decode cX11_block 379 = .ok (.iload 13, 2) := by decide +kernel
theorem dX11_block_381 : decode cX11_block 381 = .ok (.iadd, 1) := by decide +kernel
theorem dX11_block_382 : decode cX11_block 382 = .ok (.istore_n 3, 1) := by decide +kernel
theorem dX11_block_383 : decode cX11_block 383 = .ok (.iinc 11 1, 3) := by decide +kernel
theorem dX11_block_386 : decode cX11_block 386 = .ok (.goto (-141), 3) := by decide +kernel
theorem dX11_block_389 : decode cX11_block 389 = .ok (.aload_n 0, 1) := by decide +kernel
theorem dX11_block_390 : decode cX11_block 390 = .ok (.getfield 13, 3) := by decide +kernel
theorem dX11_block_393 : decode cX11_block 393 = .ok (.iconst 0, 1) := by decide +kernel
theorem dX11_block_394 : decode cX11_block 394 = .ok (.dup2, 1) := by decide +kernel
theorem dX11_block_395 : decode cX11_block 395 = .ok (.iaload, 1) := by decide +kernel
theorem dX11_block_396 : decode cX11_block 396 = .ok (.iload_n 3, 1) := by decide +kernel
theorem dX11_block_397 : decode cX11_block 397 = .ok (.iadd, 1) := by decide +kernel
theorem dX11_block_398 : decode cX11_block 398 = .ok (.iastore, 1) := by decide +kernel
theorem dX11_block_399 : decode cX11_block 399 = .ok (.aload_n 0, 1) := by decide +kernel
theorem dX11_block_400 : decode cX11_block 400 = .ok (.getfield 13, 3) := by decide +kernel
theorem dX11_block_403 : decode cX11_block 403 = .ok (.iconst 1, 1) := by decide +kernel
theorem dX11_block_404 : decode cX11_block 404 = .ok (.dup2, 1) := by decide +kernel
theorem dX11_block_405 : decode cX11_block 405 = .ok (.iaload, 1) := by decide +kernel
theorem dX11_block_406 : decode cX11_block 406 = .ok (.iload 4, 2) := by decide +kernel
theorem dX11_block_408 : decode cX11_block 408 = .ok (.iadd, 1) := by decide +kernel
theorem dX11_block_409 : decode cX11_block 409 = .ok (.iastore, 1) := by decide +kernel
theorem dX11_block_410 : decode cX11_block 410 = .ok (.aload_n 0, 1) := by decide +kernel
theorem dX11_block_411 : decode cX11_block 411 = .ok (.getfield 13, 3) := by decide +kernel
theorem dX11_block_414 : decode cX11_block 414 = .ok (.iconst 2, 1) := by decide +kernel
theorem dX11_block_415 : decode cX11_block 415 = .ok (.dup2, 1) := by decide +kernel
theorem dX11_block_416 : decode cX11_block 416 = .ok (.iaload, 1) := by decide +kernel
theorem dX11_block_417 : decode cX11_block 417 = .ok (.iload 5, 2) := by decide +kernel
theorem dX11_block_419 : decode cX11_block 419 = .ok (.iadd, 1) := by decide +kernel
theorem dX11_block_420 : decode cX11_block 420 = .ok (.iastore, 1) := by decide +kernel
theorem dX11_block_421 : decode cX11_block 421 = .ok (.aload_n 0, 1) := by decide +kernel
theorem dX11_block_422 : decode cX11_block 422 = .ok (.getfield 13, 3) := by decide +kernel
theorem dX11_block_425 : decode cX11_block 425 = .ok (.iconst 3, 1) := by decide +kernel
theorem dX11_block_426 : decode cX11_block 426 = .ok (.dup2, 1) := by decide +kernel
theorem dX11_block_427 : decode cX11_block 427 = .ok (.iaload, 1) := by decide +kernel
theorem dX11_block_428 : decode cX11_block 428 = .ok (.iload 6, 2) := by decide +kernel
theorem dX11_block_430 : decode cX11_block 430 = .ok (.iadd, 1) := by decide +kernel
theorem dX11_block_431 : decode cX11_block 431 = .ok (.iastore, 1) := by decide +kernel
theorem dX11_block_432 : decode cX11_block 432 = .ok (.aload_n 0, 1) := by decide +kernel
theorem dX11_block_433 : decode cX11_block 433 = .ok (.getfield 13, 3) := by decide +kernel
theorem dX11_block_436 : decode cX11_block 436 = .ok (.iconst 4, 1) := by decide +kernel
theorem dX11_block_437 : decode cX11_block 437 = .ok (.dup2, 1) := by decide +kernel
theorem dX11_block_438 : decode cX11_block 438 = .ok (.iaload, 1) := by decide +kernel
theorem dX11_block_439 : decode cX11_block 439 = .ok (.iload 7, 2) := by decide +kernel
theorem dX11_block_441 : decode cX11_block 441 = .ok (.iadd, 1) := by decide +kernel
theorem dX11_block_442 : decode cX11_block 442 = .ok (.iastore, 1) := by decide +kernel
theorem dX11_block_443 : decode cX11_block 443 = .ok (.aload_n 0, 1) := by decide +kernel
theorem dX11_block_444 : decode cX11_block 444 = .ok (.getfield 13, 3) := by decide +kernel
theorem dX11_block_447 : decode cX11_block 447 = .ok (.iconst 5, 1) := by decide +kernel
theorem dX11_block_448 : decode cX11_block 448 = .ok (.dup2, 1) := by decide +kernel
theorem dX11_block_449 : decode cX11_block 449 = .ok (.iaload, 1) := by decide +kernel
theorem dX11_block_450 : decode cX11_block 450 = .ok (.iload 8, 2) := by decide +kernel
theorem dX11_block_452 : decode cX11_block 452 = .ok (.iadd, 1) := by decide +kernel
theorem dX11_block_453 : decode cX11_block 453 = .ok (.iastore, 1) := by decide +kernel
theorem dX11_block_454 : decode cX11_block 454 = .ok (.aload_n 0, 1) := by decide +kernel
theorem dX11_block_455 : decode cX11_block 455 = .ok (.getfield 13, 3) := by decide +kernel
theorem dX11_block_458 : decode cX11_block 458 = .ok (.bipush 6, 2) := by decide +kernel
theorem dX11_block_460 : decode cX11_block 460 = .ok (.dup2, 1) := by decide +kernel
theorem dX11_block_461 : decode cX11_block 461 = .ok (.iaload, 1) := by decide +kernel
theorem dX11_block_462 : decode cX11_block 462 = .ok (.iload 9, 2) := by decide +kernel
theorem dX11_block_464 : decode cX11_block 464 = .ok (.iadd, 1) := by decide +kernel
theorem dX11_block_465 : decode cX11_block 465 = .ok (.iastore, 1) := by decide +kernel
theorem dX11_block_466 : decode cX11_block 466 = .ok (.aload_n 0, 1) := by decide +kernel
theorem dX11_block_467 : decode cX11_block 467 = .ok (.getfield 13, 3) := by decide +kernel
theorem dX11_block_470 : decode cX11_block 470 = .ok (.bipush 7, 2) := by decide +kernel
theorem dX11_block_472 : decode cX11_block 472 = .ok (.dup2, 1) := by decide +kernel
theorem dX11_block_473 : decode cX11_block 473 = .ok (.iaload, 1) := by decide +kernel
theorem dX11_block_474 : decode cX11_block 474 = .ok (.iload 10, 2) := by decide +kernel
theorem dX11_block_476 : decode cX11_block 476 = .ok (.iadd, 1) := by decide +kernel
theorem dX11_block_477 : decode cX11_block 477 = .ok (.iastore, 1) := by decide +kernel
theorem dX11_block_478 : decode cX11_block 478 = .ok (.return_, 1) := by decide +kernel
theorem dX11_hashes_0 : decode cX11_hashes 0 = .ok (.aload_n 0, 1) := by decide +kernel
theorem dX11_hashes_1 : decode cX11_hashes 1 = .ok (.getfield 255, 3) := by decide +kernel
theorem dX11_hashes_4 : decode cX11_hashes 4 = .ok (.bipush 8, 2) := by decide +kernel
theorem dX11_hashes_6 : decode cX11_hashes 6 = .ok (.iadd, 1) := by decide +kernel
theorem dX11_hashes_7 : decode cX11_hashes 7 = .ok (.bipush 64, 2) := by decide +kernel
theorem dX11_hashes_9 : decode cX11_hashes 9 = .ok (.idiv, 1) := by decide +kernel
theorem dX11_hashes_10 : decode cX11_hashes 10 = .ok (.bipush 64, 2) := by decide +kernel
theorem dX11_hashes_12 : decode cX11_hashes 12 = .ok (.imul, 1) := by decide +kernel
theorem dX11_hashes_13 : decode cX11_hashes 13 = .ok (.bipush 64, 2) := by decide +kernel
theorem dX11_hashes_15 : decode cX11_hashes 15 = .ok (.iadd, 1) := by decide +kernel
theorem dX11_hashes_16 : decode cX11_hashes 16 = .ok (.istore_n 3, 1) := by decide +kernel
theorem dX11_hashes_17 : decode cX11_hashes 17 = .ok (.iconst 0, 1) := by decide +kernel
theorem dX11_hashes_18 : decode cX11_hashes 18 = .ok (.istore 4, 2) := by decide +kernel
theorem dX11_hashes_20 : decode cX11_hashes 20 = .ok (.iload 4, 2) := by decide +kernel
theorem dX11_hashes_22 : decode cX11_hashes 22 = .ok (.bipush 8, 2) := by decide +kernel
theorem dX11_hashes_24 : decode cX11_hashes 24 = .ok (.if_icmp .ge 23, 3) := by decide +kernel
theorem dX11_hashes_27 : decode cX11_hashes 27 = .ok (.aload_n 0, 1) := by decide +kernel
theorem dX11_hashes_28 : decode cX11_hashes 28 = .ok (.getfield 13, 3) := by decide +kernel
theorem dX11_hashes_31 : decode cX11_hashes 31 = .ok (.iload 4, 2) := by decide +kernel
theorem dX11_hashes_33 : decode cX11_hashes 33 = .ok (.aload_n 0, 1) := by decide +kernel
theorem dX11_hashes_34 : decode cX11_hashes 34 = .ok (.getfield 27, 3) := by decide +kernel
theorem dX11_hashes_37 : decode cX11_hashes 37 = .ok (.iload 4, 2) := by decide +kernel
theorem dX11_hashes_39 : decode cX11_hashes 39 = .ok (.iaload, 1) := by decide +kernel
theorem dX11_hashes_40 : decode cX11_hashes 40 = .ok (.iastore, 1) := by decide +kernel
theorem dX11_hashes_41 : decode cX11_hashes 41 = .ok (.iinc 4 1, 3) := by decide +kernel
theorem dX11_hashes_44 : decode cX11_hashes 44 = .ok (.goto (-24), 3) := by decide +kernel
theorem dX11_hashes_47 : decode cX11_hashes 47 = .ok (.iconst 0, 1) := by decide +kernel
theorem dX11_hashes_48 : decode cX11_hashes 48 = .ok (.istore 4, 2) := by decide +kernel
theorem dX11_hashes_50 : decode cX11_hashes 50 = .ok (.iload 4, 2) := by decide +kernel
theorem dX11_hashes_52 : decode cX11_hashes 52 = .ok (.iload_n 3, 1) := by decide +kernel
theorem dX11_hashes_53 : decode cX11_hashes 53 = .ok (.if_icmp .ge 16, 3) := by decide +kernel
theorem dX11_hashes_56 : decode cX11_hashes 56 = .ok (.aload_n 0, 1) := by decide +kernel
theorem dX11_hashes_57 : decode cX11_hashes 57 = .ok (.iload 4, 2) := by decide +kernel
theorem dX11_hashes_59 : decode cX11_hashes 59 = .ok (.iload_n 3, 1) := by decide +kernel
theorem dX11_hashes_60 : decode cX11_hashes 60 = .ok (.invokevirtual 266, 3) := by decide +kernel
theorem dX11_hashes_63 : decode cX11_hashes 63 = .ok (.iinc 4 64, 3) := by decide +kernel
theorem dX11_hashes_66 : decode cX11_hashes 66 = .ok (.goto (-16), 3) := by decide +kernel
theorem dX11_hashes_69 : decode cX11_hashes 69 = .ok (.iconst 0, 1) := by decide +kernel
theorem dX11_hashes_70 : decode cX11_hashes 70 = .ok (.istore 4, 2) := by decide +kernel
theorem dX11_hashes_72 : decode cX11_hashes 72 = .ok (.iload 4, 2) := by decide +kernel
theorem dX11_hashes_74 : decode cX11_hashes 74 = .ok (.bipush 32, 2) := by decide +kernel
theorem dX11_hashes_76 : decode cX11_hashes 76 = .ok (.if_icmp .ge 39, 3) := by decide +kernel
theorem dX11_hashes_79 : decode cX11_hashes 79 = .ok (.aload_n 1, 1) := by decide +kernel
theorem dX11_hashes_80 : decode cX11_hashes 80 = .ok (.iload_n 2, 1) := by decide +kernel
theorem dX11_hashes_81 : decode cX11_hashes 81 = .ok (.iload 4, 2) := by decide +kernel
theorem dX11_hashes_83 : decode cX11_hashes 83 = .ok (.iadd, 1) := by decide +kernel
theorem dX11_hashes_84 : decode cX11_hashes 84 = .ok (.aload_n 0, 1) := by decide +kernel
theorem dX11_hashes_85 : decode cX11_hashes 85 = .ok (.getfield 13, 3) := by decide +kernel
theorem dX11_hashes_88 : decode cX11_hashes 88 = .ok (.iload 4, 2) := by decide +kernel
theorem dX11_hashes_90 : decode cX11_hashes 90 = .ok (.iconst 4, 1) := by decide +kernel
theorem dX11_hashes_91 : decode cX11_hashes 91 = .ok (.idiv, 1) := by decide +kernel
theorem dX11_hashes_92 : decode cX11_hashes 92 = .ok (.iaload, 1) := by decide +kernel
theorem dX11_hashes_93 : decode cX11_hashes 93 = .ok (.bipush 24, 2) := by decide +kernel
theorem dX11_hashes_95 : decode cX11_hashes 95 = .ok (.bipush 8, 2) := by decide +kernel
theorem dX11_hashes_97 : decode cX11_hashes 97 = .ok (.iload 4, 2) := by decide +kernel
theorem dX11_hashes_99 : decode cX11_hashes 99 = .ok (.iconst 4, 1) := by decide +kernel
theorem dX11_hashes_100 : decode cX11_hashes 100 = .ok (.irem, 1) := by decide +kernel
theorem dX11_hashes_101 : decode cX11_hashes 101 = .ok (.imul, 1) := by decide +kernel
theorem dX11_hashes_102 : decode cX11_hashes 102 = .ok (.isub, 1) := by decide +kernel
theorem dX11_hashes_103 : decode cX11_hashes 103 = .ok (.iushr, 1) := by decide +kernel
theorem dX11_hashes_104 : decode cX11_hashes 104 = .ok (.sipush 255, 3) := by decide +kernel
theorem dX11_hashes_107 : decode cX11_hashes 107 = .ok (.iand, 1) := by decide +kernel
theorem dX11_hashes_108 : decode cX11_hashes 108 = .ok (.iastore, 1) := by decide +kernel
theorem dX11_hashes_109 : decode cX11_hashes 109 = .ok (.iinc 4 1, 3) := by decide +kernel
theorem dX11_hashes_112 : decode cX11_hashes 112 = .ok (.goto (-40), 3) := by decide +kernel
theorem dX11_hashes_115 : decode cX11_hashes 115 = .ok (.return_, 1) := by decide +kernel
theorem dX11_lays_0 : decode cX11_lays 0 = .ok (.aload_n 1, 1) := by decide +kernel
theorem dX11_lays_1 : decode cX11_lays 1 = .ok (.iload_n 2, 1) := by decide +kernel
theorem dX11_lays_2 : decode cX11_lays 2 = .ok (.aload_n 0, 1) := by decide +kernel
theorem dX11_lays_3 : decode cX11_lays 3 = .ok (.getfield 7, 3) := by decide +kernel
theorem dX11_lays_6 : decode cX11_lays 6 = .ok (.aload_n 0, 1) := by decide +kernel
theorem dX11_lays_7 : decode cX11_lays 7 = .ok (.getfield 255, 3) := by decide +kernel
theorem dX11_lays_10 : decode cX11_lays 10 = .ok (.iload_n 3, 1) := by decide +kernel
theorem dX11_lays_11 : decode cX11_lays 11 = .ok (.invokestatic 270, 3) := by decide +kernel
theorem dX11_lays_14 : decode cX11_lays 14 = .ok (.aload_n 0, 1) := by decide +kernel
theorem dX11_lays_15 : decode cX11_lays 15 = .ok (.dup, 1) := by decide +kernel
theorem dX11_lays_16 : decode cX11_lays 16 = .ok (.getfield 255, 3) := by decide +kernel
theorem dX11_lays_19 : decode cX11_lays 19 = .ok (.iload_n 3, 1) := by decide +kernel
theorem dX11_lays_20 : decode cX11_lays 20 = .ok (.iadd, 1) := by decide +kernel
theorem dX11_lays_21 : decode cX11_lays 21 = .ok (.putfield 255, 3) := by decide +kernel
theorem dX11_lays_24 : decode cX11_lays 24 = .ok (.return_, 1) := by decide +kernel
theorem dX11_mac_0 : decode cX11_mac 0 = .ok (.aload_n 0, 1) := by decide +kernel
theorem dX11_mac_1 : decode cX11_mac 1 = .ok (.bipush 64, 2) := by decide +kernel
theorem dX11_mac_3 : decode cX11_mac 3 = .ok (.putfield 255, 3) := by decide +kernel
theorem dX11_mac_6 : decode cX11_mac 6 = .ok (.iconst 0, 1) := by decide +kernel
theorem dX11_mac_7 : decode cX11_mac 7 = .ok (.istore 8, 2) := by decide +kernel
theorem dX11_mac_9 : decode cX11_mac 9 = .ok (.iload 8, 2) := by decide +kernel
theorem dX11_mac_11 : decode cX11_mac 11 = .ok (.bipush 64, 2) := by decide +kernel
theorem dX11_mac_13 : decode cX11_mac 13 = .ok (.if_icmp .ge 36, 3) := by decide +kernel
theorem dX11_mac_16 : decode cX11_mac 16 = .ok (.aload_n 0, 1) := by decide +kernel
theorem dX11_mac_17 : decode cX11_mac 17 = .ok (.getfield 7, 3) := by decide +kernel
theorem dX11_mac_20 : decode cX11_mac 20 = .ok (.iload 8, 2) := by decide +kernel
theorem dX11_mac_22 : decode cX11_mac 22 = .ok (.iload 8, 2) := by decide +kernel
theorem dX11_mac_24 : decode cX11_mac 24 = .ok (.bipush 32, 2) := by decide +kernel
theorem dX11_mac_26 : decode cX11_mac 26 = .ok (.if_icmp .ge 12, 3) := by decide +kernel
theorem dX11_mac_29 : decode cX11_mac 29 = .ok (.aload_n 1, 1) := by decide +kernel
theorem dX11_mac_30 : decode cX11_mac 30 = .ok (.iload_n 2, 1) := by decide +kernel
theorem dX11_mac_31 : decode cX11_mac 31 = .ok (.iload 8, 2) := by decide +kernel
theorem dX11_mac_33 : decode cX11_mac 33 = .ok (.iadd, 1) := by decide +kernel
theorem dX11_mac_34 : decode cX11_mac 34 = .ok (.iaload, 1) := by decide +kernel
theorem dX11_mac_35 : decode cX11_mac 35 = .ok (.goto 4, 3) := by decide +kernel
theorem dX11_mac_38 : decode cX11_mac 38 = .ok (.iconst 0, 1) := by decide +kernel
theorem dX11_mac_39 : decode cX11_mac 39 = .ok (.bipush 54, 2) := by decide +kernel
theorem dX11_mac_41 : decode cX11_mac 41 = .ok (.ixor, 1) := by decide +kernel
theorem dX11_mac_42 : decode cX11_mac 42 = .ok (.iastore, 1) := by decide +kernel
theorem dX11_mac_43 : decode cX11_mac 43 = .ok (.iinc 8 1, 3) := by decide +kernel
theorem dX11_mac_46 : decode cX11_mac 46 = .ok (.goto (-37), 3) := by decide +kernel
theorem dX11_mac_49 : decode cX11_mac 49 = .ok (.aload_n 0, 1) := by decide +kernel
theorem dX11_mac_50 : decode cX11_mac 50 = .ok (.aload_n 3, 1) := by decide +kernel
theorem dX11_mac_51 : decode cX11_mac 51 = .ok (.iload 4, 2) := by decide +kernel
theorem dX11_mac_53 : decode cX11_mac 53 = .ok (.iload 5, 2) := by decide +kernel
theorem dX11_mac_55 : decode cX11_mac 55 = .ok (.invokevirtual 274, 3) := by decide +kernel
theorem dX11_mac_58 : decode cX11_mac 58 = .ok (.aload_n 0, 1) := by decide +kernel
theorem dX11_mac_59 : decode cX11_mac 59 = .ok (.aload_n 0, 1) := by decide +kernel
theorem dX11_mac_60 : decode cX11_mac 60 = .ok (.getfield 97, 3) := by decide +kernel
theorem dX11_mac_63 : decode cX11_mac 63 = .ok (.iconst 0, 1) := by decide +kernel
theorem dX11_mac_64 : decode cX11_mac 64 = .ok (.invokevirtual 278, 3) := by decide +kernel
theorem dX11_mac_67 : decode cX11_mac 67 = .ok (.aload_n 0, 1) := by decide +kernel
theorem dX11_mac_68 : decode cX11_mac 68 = .ok (.bipush 64, 2) := by decide +kernel
theorem dX11_mac_70 : decode cX11_mac 70 = .ok (.putfield 255, 3) := by decide +kernel
theorem dX11_mac_73 : decode cX11_mac 73 = .ok (.iconst 0, 1) := by decide +kernel
theorem dX11_mac_74 : decode cX11_mac 74 = .ok (.istore 8, 2) := by decide +kernel
theorem dX11_mac_76 : decode cX11_mac 76 = .ok (.iload 8, 2) := by decide +kernel
theorem dX11_mac_78 : decode cX11_mac 78 = .ok (.bipush 64, 2) := by decide +kernel
theorem dX11_mac_80 : decode cX11_mac 80 = .ok (.if_icmp .ge 36, 3) := by decide +kernel
theorem dX11_mac_83 : decode cX11_mac 83 = .ok (.aload_n 0, 1) := by decide +kernel
theorem dX11_mac_84 : decode cX11_mac 84 = .ok (.getfield 7, 3) := by decide +kernel
theorem dX11_mac_87 : decode cX11_mac 87 = .ok (.iload 8, 2) := by decide +kernel
theorem dX11_mac_89 : decode cX11_mac 89 = .ok (.iload 8, 2) := by decide +kernel
theorem dX11_mac_91 : decode cX11_mac 91 = .ok (.bipush 32, 2) := by decide +kernel
theorem dX11_mac_93 : decode cX11_mac 93 = .ok (.if_icmp .ge 12, 3) := by decide +kernel
theorem dX11_mac_96 : decode cX11_mac 96 = .ok (.aload_n 1, 1) := by decide +kernel
theorem dX11_mac_97 : decode cX11_mac 97 = .ok (.iload_n 2, 1) := by decide +kernel
theorem dX11_mac_98 : decode cX11_mac 98 = .ok (.iload 8, 2) := by decide +kernel
theorem dX11_mac_100 : decode cX11_mac 100 = .ok (.iadd, 1) := by decide +kernel
theorem dX11_mac_101 : decode cX11_mac 101 = .ok (.iaload, 1) := by decide +kernel
theorem dX11_mac_102 : decode cX11_mac 102 = .ok (.goto 4, 3) := by decide +kernel
theorem dX11_mac_105 : decode cX11_mac 105 = .ok (.iconst 0, 1) := by decide +kernel
theorem dX11_mac_106 : decode cX11_mac 106 = .ok (.bipush 92, 2) := by decide +kernel
theorem dX11_mac_108 : decode cX11_mac 108 = .ok (.ixor, 1) := by decide +kernel
theorem dX11_mac_109 : decode cX11_mac 109 = .ok (.iastore, 1) := by decide +kernel
theorem dX11_mac_110 : decode cX11_mac 110 = .ok (.iinc 8 1, 3) := by decide +kernel
theorem dX11_mac_113 : decode cX11_mac 113 = .ok (.goto (-37), 3) := by decide +kernel
theorem dX11_mac_116 : decode cX11_mac 116 = .ok (.aload_n 0, 1) := by decide +kernel
theorem dX11_mac_117 : decode cX11_mac 117 = .ok (.aload_n 0, 1) := by decide +kernel
theorem dX11_mac_118 : decode cX11_mac 118 = .ok (.getfield 97, 3) := by decide +kernel
theorem dX11_mac_121 : decode cX11_mac 121 = .ok (.iconst 0, 1) := by decide +kernel
theorem dX11_mac_122 : decode cX11_mac 122 = .ok (.bipush 32, 2) := by decide +kernel
theorem dX11_mac_124 : decode cX11_mac 124 = .ok (.invokevirtual 274, 3) := by decide +kernel
theorem dX11_mac_127 : decode cX11_mac 127 = .ok (.aload_n 0, 1) := by decide +kernel
theorem dX11_mac_128 : decode cX11_mac 128 = .ok (.aload 6, 2) := by decide +kernel
theorem dX11_mac_130 : decode cX11_mac 130 = .ok (.iload 7, 2) := by decide +kernel
theorem dX11_mac_132 : decode cX11_mac 132 = .ok (.invokevirtual 278, 3) := by decide +kernel
theorem dX11_mac_135 : decode cX11_mac 135 = .ok (.return_, 1) := by decide +kernel
theorem dX11_keys_0 : decode cX11_keys 0 = .ok (.aload_n 0, 1) := by decide +kernel
theorem dX11_keys_1 : decode cX11_keys 1 = .ok (.aload_n 1, 1) := by decide +kernel
theorem dX11_keys_2 : decode cX11_keys 2 = .ok (.iload_n 2, 1) := by decide +kernel
theorem dX11_keys_3 : decode cX11_keys 3 = .ok (.aload_n 3, 1) := by decide +kernel
theorem dX11_keys_4 : decode cX11_keys 4 = .ok (.iconst 0, 1) := by decide +kernel
theorem dX11_keys_5 : decode cX11_keys 5 = .ok (.iload 4, 2) := by decide +kernel
theorem dX11_keys_7 : decode cX11_keys 7 = .ok (.aload_n 0, 1) := by decide +kernel
theorem dX11_keys_8 : decode cX11_keys 8 = .ok (.getfield 100, 3) := by decide +kernel
theorem dX11_keys_11 : decode cX11_keys 11 = .ok (.iconst 0, 1) := by decide +kernel
theorem dX11_keys_12 : decode cX11_keys 12 = .ok (.invokevirtual 282, 3) := by decide +kernel
theorem dX11_keys_15 : decode cX11_keys 15 = .ok (.aload_n 0, 1) := by decide +kernel
theorem dX11_keys_16 : decode cX11_keys 16 = .ok (.getfield 103, 3) := by decide +kernel
theorem dX11_keys_19 : decode cX11_keys 19 = .ok (.iconst 0, 1) := by decide +kernel
theorem dX11_keys_20 : decode cX11_keys 20 = .ok (.iconst 1, 1) := by decide +kernel
theorem dX11_keys_21 : decode cX11_keys 21 = .ok (.iastore, 1) := by decide +kernel
theorem dX11_keys_22 : decode cX11_keys 22 = .ok (.aload_n 0, 1) := by decide +kernel
theorem dX11_keys_23 : decode cX11_keys 23 = .ok (.aload_n 0, 1) := by decide +kernel
theorem dX11_keys_24 : decode cX11_keys 24 = .ok (.getfield 100, 3) := by decide +kernel
theorem dX11_keys_27 : decode cX11_keys 27 = .ok (.iconst 0, 1) := by decide +kernel
theorem dX11_keys_28 : decode cX11_keys 28 = .ok (.aload_n 0, 1) := by decide +kernel
theorem dX11_keys_29 : decode cX11_keys 29 = .ok (.getfield 103, 3) := by decide +kernel
theorem dX11_keys_32 : decode cX11_keys 32 = .ok (.iconst 0, 1) := by decide +kernel
theorem dX11_keys_33 : decode cX11_keys 33 = .ok (.iconst 1, 1) := by decide +kernel
theorem dX11_keys_34 : decode cX11_keys 34 = .ok (.aload_n 0, 1) := by decide +kernel
theorem dX11_keys_35 : decode cX11_keys 35 = .ok (.getfield 103, 3) := by decide +kernel
theorem dX11_keys_38 : decode cX11_keys 38 = .ok (.iconst 0, 1) := by decide +kernel
theorem dX11_keys_39 : decode cX11_keys 39 = .ok (.invokevirtual 282, 3) := by decide +kernel
theorem dX11_keys_42 : decode cX11_keys 42 = .ok (.aload_n 0, 1) := by decide +kernel
theorem dX11_keys_43 : decode cX11_keys 43 = .ok (.getfield 103, 3) := by decide +kernel
theorem dX11_keys_46 : decode cX11_keys 46 = .ok (.bipush 32, 2) := by decide +kernel
theorem dX11_keys_48 : decode cX11_keys 48 = .ok (.iconst 2, 1) := by decide +kernel
theorem dX11_keys_49 : decode cX11_keys 49 = .ok (.iastore, 1) := by decide +kernel
theorem dX11_keys_50 : decode cX11_keys 50 = .ok (.aload_n 0, 1) := by decide +kernel
theorem dX11_keys_51 : decode cX11_keys 51 = .ok (.aload_n 0, 1) := by decide +kernel
theorem dX11_keys_52 : decode cX11_keys 52 = .ok (.getfield 100, 3) := by decide +kernel
theorem dX11_keys_55 : decode cX11_keys 55 = .ok (.iconst 0, 1) := by decide +kernel
theorem dX11_keys_56 : decode cX11_keys 56 = .ok (.aload_n 0, 1) := by decide +kernel
theorem dX11_keys_57 : decode cX11_keys 57 = .ok (.getfield 103, 3) := by decide +kernel
theorem dX11_keys_60 : decode cX11_keys 60 = .ok (.iconst 0, 1) := by decide +kernel
theorem dX11_keys_61 : decode cX11_keys 61 = .ok (.bipush 33, 2) := by decide +kernel
theorem dX11_keys_63 : decode cX11_keys 63 = .ok (.aload_n 0, 1) := by decide +kernel
theorem dX11_keys_64 : decode cX11_keys 64 = .ok (.getfield 106, 3) := by decide +kernel
theorem dX11_keys_67 : decode cX11_keys 67 = .ok (.iconst 0, 1) := by decide +kernel
theorem dX11_keys_68 : decode cX11_keys 68 = .ok (.invokevirtual 282, 3) := by decide +kernel
theorem dX11_keys_71 : decode cX11_keys 71 = .ok (.return_, 1) := by decide +kernel
theorem dX11_secret_0 : decode cX11_secret 0 = .ok (.aload_n 0, 1) := by decide +kernel
theorem dX11_secret_1 : decode cX11_secret 1 = .ok (.iconst 0, 1) := by decide +kernel
theorem dX11_secret_2 : decode cX11_secret 2 = .ok (.putfield 255, 3) := by decide +kernel
theorem dX11_secret_5 : decode cX11_secret 5 = .ok (.bipush 24, 2) := by decide +kernel
theorem dX11_secret_7 : decode cX11_secret 7 = .ok (.istore 5, 2) := by decide +kernel
theorem dX11_secret_9 : decode cX11_secret 9 = .ok (.iload 5, 2) := by decide +kernel
theorem dX11_secret_11 : decode cX11_secret 11 = .ok (.ifCond .lt 36, 3) := by decide +kernel
theorem dX11_secret_14 : decode cX11_secret 14 = .ok (.aload_n 0, 1) := by decide +kernel
theorem dX11_secret_15 : decode cX11_secret 15 = .ok (.getfield 7, 3) := by decide +kernel
theorem dX11_secret_18 : decode cX11_secret 18 = .ok (.aload_n 0, 1) := by decide +kernel
theorem dX11_secret_19 : decode cX11_secret 19 = .ok (.getfield 255, 3) := by decide +kernel
theorem dX11_secret_22 : decode cX11_secret 22 = .ok (.iload_n 1, 1) := by decide +kernel
theorem dX11_secret_23 : decode cX11_secret 23 = .ok (.iload 5, 2) := by decide +kernel
theorem dX11_secret_25 : decode cX11_secret 25 = .ok (.iushr, 1) := by decide +kernel
theorem dX11_secret_26 : decode cX11_secret 26 = .ok (.sipush 255, 3) := by decide +kernel
theorem dX11_secret_29 : decode cX11_secret 29 = .ok (.iand, 1) := by decide +kernel
theorem dX11_secret_30 : decode cX11_secret 30 = .ok (.iastore, 1) := by decide +kernel
theorem dX11_secret_31 : decode cX11_secret 31 = .ok (.aload_n 0, 1) := by decide +kernel
theorem dX11_secret_32 : decode cX11_secret 32 = .ok (.dup, 1) := by decide +kernel
theorem dX11_secret_33 : decode cX11_secret 33 = .ok (.getfield 255, 3) := by decide +kernel
theorem dX11_secret_36 : decode cX11_secret 36 = .ok (.iconst 1, 1) := by decide +kernel
theorem dX11_secret_37 : decode cX11_secret 37 = .ok (.iadd, 1) := by decide +kernel
theorem dX11_secret_38 : decode cX11_secret 38 = .ok (.putfield 255, 3) := by decide +kernel
theorem dX11_secret_41 : decode cX11_secret 41 = .ok (.iinc 5 (-8), 3) := by decide +kernel
theorem dX11_secret_44 : decode cX11_secret 44 = .ok (.goto (-35), 3) := by decide +kernel
theorem dX11_secret_47 : decode cX11_secret 47 = .ok (.bipush 24, 2) := by decide +kernel
theorem dX11_secret_49 : decode cX11_secret 49 = .ok (.istore 5, 2) := by decide +kernel
theorem dX11_secret_51 : decode cX11_secret 51 = .ok (.iload 5, 2) := by decide +kernel
theorem dX11_secret_53 : decode cX11_secret 53 = .ok (.ifCond .lt 36, 3) := by decide +kernel
theorem dX11_secret_56 : decode cX11_secret 56 = .ok (.aload_n 0, 1) := by decide +kernel
theorem dX11_secret_57 : decode cX11_secret 57 = .ok (.getfield 7, 3) := by decide +kernel
theorem dX11_secret_60 : decode cX11_secret 60 = .ok (.aload_n 0, 1) := by decide +kernel
theorem dX11_secret_61 : decode cX11_secret 61 = .ok (.getfield 255, 3) := by decide +kernel
theorem dX11_secret_64 : decode cX11_secret 64 = .ok (.iload_n 2, 1) := by decide +kernel
theorem dX11_secret_65 : decode cX11_secret 65 = .ok (.iload 5, 2) := by decide +kernel
theorem dX11_secret_67 : decode cX11_secret 67 = .ok (.iushr, 1) := by decide +kernel
theorem dX11_secret_68 : decode cX11_secret 68 = .ok (.sipush 255, 3) := by decide +kernel
theorem dX11_secret_71 : decode cX11_secret 71 = .ok (.iand, 1) := by decide +kernel
theorem dX11_secret_72 : decode cX11_secret 72 = .ok (.iastore, 1) := by decide +kernel
theorem dX11_secret_73 : decode cX11_secret 73 = .ok (.aload_n 0, 1) := by decide +kernel
theorem dX11_secret_74 : decode cX11_secret 74 = .ok (.dup, 1) := by decide +kernel
theorem dX11_secret_75 : decode cX11_secret 75 = .ok (.getfield 255, 3) := by decide +kernel
theorem dX11_secret_78 : decode cX11_secret 78 = .ok (.iconst 1, 1) := by decide +kernel
theorem dX11_secret_79 : decode cX11_secret 79 = .ok (.iadd, 1) := by decide +kernel
theorem dX11_secret_80 : decode cX11_secret 80 = .ok (.putfield 255, 3) := by decide +kernel
theorem dX11_secret_83 : decode cX11_secret 83 = .ok (.iinc 5 (-8), 3) := by decide +kernel
theorem dX11_secret_86 : decode cX11_secret 86 = .ok (.goto (-35), 3) := by decide +kernel
theorem dX11_secret_89 : decode cX11_secret 89 = .ok (.aload_n 0, 1) := by decide +kernel
theorem dX11_secret_90 : decode cX11_secret 90 = .ok (.aload_n 3, 1) := by decide +kernel
theorem dX11_secret_91 : decode cX11_secret 91 = .ok (.iload 4, 2) := by decide +kernel
theorem dX11_secret_93 : decode cX11_secret 93 = .ok (.invokevirtual 278, 3) := by decide +kernel
theorem dX11_secret_96 : decode cX11_secret 96 = .ok (.return_, 1) := by decide +kernel
theorem dX11_carry_0 : decode cX11_carry 0 = .ok (.iconst 0, 1) := by decide +kernel
theorem dX11_carry_1 : decode cX11_carry 1 = .ok (.istore_n 2, 1) := by decide +kernel
theorem dX11_carry_2 : decode cX11_carry 2 = .ok (.iload_n 2, 1) := by decide +kernel
theorem dX11_carry_3 : decode cX11_carry 3 = .ok (.bipush 16, 2) := by decide +kernel
theorem dX11_carry_5 : decode cX11_carry 5 = .ok (.if_icmp .ge 106, 3) := by decide +kernel
theorem dX11_carry_8 : decode cX11_carry 8 = .ok (.aload_n 0, 1) := by decide +kernel
theorem dX11_carry_9 : decode cX11_carry 9 = .ok (.getfield 109, 3) := by decide +kernel
theorem dX11_carry_12 : decode cX11_carry 12 = .ok (.bipush 16, 2) := by decide +kernel
theorem dX11_carry_14 : decode cX11_carry 14 = .ok (.iload_n 1, 1) := by decide +kernel
theorem dX11_carry_15 : decode cX11_carry 15 = .ok (.imul, 1) := by decide +kernel
theorem dX11_carry_16 : decode cX11_carry 16 = .ok (.iload_n 2, 1) := by decide +kernel
theorem dX11_carry_17 : decode cX11_carry 17 = .ok (.iadd, 1) := by decide +kernel
theorem dX11_carry_18 : decode cX11_carry 18 = .ok (.dup2, 1) := by decide +kernel
theorem dX11_carry_19 : decode cX11_carry 19 = .ok (.laload, 1) := by decide +kernel
theorem dX11_carry_20 : decode cX11_carry 20 = .ok (.ldc2_w 286, 3) := by decide +kernel
theorem dX11_carry_23 : decode cX11_carry 23 = .ok (.ladd, 1) := by decide +kernel
theorem dX11_carry_24 : decode cX11_carry 24 = .ok (.lastore, 1) := by decide +kernel
theorem dX11_carry_25 : decode cX11_carry 25 = .ok (.aload_n 0, 1) := by decide +kernel
theorem dX11_carry_26 : decode cX11_carry 26 = .ok (.getfield 109, 3) := by decide +kernel
theorem dX11_carry_29 : decode cX11_carry 29 = .ok (.bipush 16, 2) := by decide +kernel
theorem dX11_carry_31 : decode cX11_carry 31 = .ok (.iload_n 1, 1) := by decide +kernel
theorem dX11_carry_32 : decode cX11_carry 32 = .ok (.imul, 1) := by decide +kernel
theorem dX11_carry_33 : decode cX11_carry 33 = .ok (.iload_n 2, 1) := by decide +kernel
theorem dX11_carry_34 : decode cX11_carry 34 = .ok (.iadd, 1) := by decide +kernel
theorem dX11_carry_35 : decode cX11_carry 35 = .ok (.laload, 1) := by decide +kernel
theorem dX11_carry_36 : decode cX11_carry 36 = .ok (.bipush 16, 2) := by decide +kernel
theorem dX11_carry_38 : decode cX11_carry 38 = .ok (.lshr, 1) := by decide +kernel
theorem dX11_carry_39 : decode cX11_carry 39 = .ok (.lstore_n 3, 1) := by decide +kernel
theorem dX11_carry_40 : decode cX11_carry 40 = .ok (.iload_n 2, 1) := by decide +kernel
theorem dX11_carry_41 : decode cX11_carry 41 = .ok (.bipush 15, 2) := by decide +kernel
theorem dX11_carry_43 : decode cX11_carry 43 = .ok (.if_icmp .ge 25, 3) := by decide +kernel
theorem dX11_carry_46 : decode cX11_carry 46 = .ok (.aload_n 0, 1) := by decide +kernel
theorem dX11_carry_47 : decode cX11_carry 47 = .ok (.getfield 109, 3) := by decide +kernel
theorem dX11_carry_50 : decode cX11_carry 50 = .ok (.bipush 16, 2) := by decide +kernel
theorem dX11_carry_52 : decode cX11_carry 52 = .ok (.iload_n 1, 1) := by decide +kernel
theorem dX11_carry_53 : decode cX11_carry 53 = .ok (.imul, 1) := by decide +kernel
theorem dX11_carry_54 : decode cX11_carry 54 = .ok (.iload_n 2, 1) := by decide +kernel
theorem dX11_carry_55 : decode cX11_carry 55 = .ok (.iadd, 1) := by decide +kernel
theorem dX11_carry_56 : decode cX11_carry 56 = .ok (.iconst 1, 1) := by decide +kernel
theorem dX11_carry_57 : decode cX11_carry 57 = .ok (.iadd, 1) := by decide +kernel
theorem dX11_carry_58 : decode cX11_carry 58 = .ok (.dup2, 1) := by decide +kernel
theorem dX11_carry_59 : decode cX11_carry 59 = .ok (.laload, 1) := by decide +kernel
theorem dX11_carry_60 : decode cX11_carry 60 = .ok (.lload_n 3, 1) := by decide +kernel
theorem dX11_carry_61 : decode cX11_carry 61 = .ok (.lconst 1, 1) := by decide +kernel
theorem dX11_carry_62 : decode cX11_carry 62 = .ok (.lsub, 1) := by decide +kernel
theorem dX11_carry_63 : decode cX11_carry 63 = .ok (.ladd, 1) := by decide +kernel
theorem dX11_carry_64 : decode cX11_carry 64 = .ok (.lastore, 1) := by decide +kernel
theorem dX11_carry_65 : decode cX11_carry 65 = .ok (.goto 22, 3) := by decide +kernel
theorem dX11_carry_68 : decode cX11_carry 68 = .ok (.aload_n 0, 1) := by decide +kernel
theorem dX11_carry_69 : decode cX11_carry 69 = .ok (.getfield 109, 3) := by decide +kernel
theorem dX11_carry_72 : decode cX11_carry 72 = .ok (.bipush 16, 2) := by decide +kernel
theorem dX11_carry_74 : decode cX11_carry 74 = .ok (.iload_n 1, 1) := by decide +kernel
theorem dX11_carry_75 : decode cX11_carry 75 = .ok (.imul, 1) := by decide +kernel
theorem dX11_carry_76 : decode cX11_carry 76 = .ok (.dup2, 1) := by decide +kernel
theorem dX11_carry_77 : decode cX11_carry 77 = .ok (.laload, 1) := by decide +kernel
theorem dX11_carry_78 : decode cX11_carry 78 = .ok (.ldc2_w 288, 3) := by decide +kernel
theorem dX11_carry_81 : decode cX11_carry 81 = .ok (.lload_n 3, 1) := by decide +kernel
theorem dX11_carry_82 : decode cX11_carry 82 = .ok (.lconst 1, 1) := by decide +kernel
theorem dX11_carry_83 : decode cX11_carry 83 = .ok (.lsub, 1) := by decide +kernel
theorem dX11_carry_84 : decode cX11_carry 84 = .ok (.lmul, 1) := by decide +kernel
theorem dX11_carry_85 : decode cX11_carry 85 = .ok (.ladd, 1) := by decide +kernel
theorem dX11_carry_86 : decode cX11_carry 86 = .ok (.lastore, 1) := by decide +kernel
theorem dX11_carry_87 : decode cX11_carry 87 = .ok (.aload_n 0, 1) := by decide +kernel
theorem dX11_carry_88 : decode cX11_carry 88 = .ok (.getfield 109, 3) := by decide +kernel
theorem dX11_carry_91 : decode cX11_carry 91 = .ok (.bipush 16, 2) := by decide +kernel
theorem dX11_carry_93 : decode cX11_carry 93 = .ok (.iload_n 1, 1) := by decide +kernel
theorem dX11_carry_94 : decode cX11_carry 94 = .ok (.imul, 1) := by decide +kernel
theorem dX11_carry_95 : decode cX11_carry 95 = .ok (.iload_n 2, 1) := by decide +kernel
theorem dX11_carry_96 : decode cX11_carry 96 = .ok (.iadd, 1) := by decide +kernel
theorem dX11_carry_97 : decode cX11_carry 97 = .ok (.dup2, 1) := by decide +kernel
theorem dX11_carry_98 : decode cX11_carry 98 = .ok (.laload, 1) := by decide +kernel
theorem dX11_carry_99 : decode cX11_carry 99 = .ok (.lload_n 3, 1) := by decide +kernel
theorem dX11_carry_100 : decode cX11_carry 100 = .ok (.bipush 16, 2) := by decide +kernel
theorem dX11_carry_102 : decode cX11_carry 102 = .ok (.lshl, 1) := by decide +kernel
theorem dX11_carry_103 : decode cX11_carry 103 = .ok (.lsub, 1) := by decide +kernel
theorem dX11_carry_104 : decode cX11_carry 104 = .ok (.lastore, 1) := by decide +kernel
theorem dX11_carry_105 : decode cX11_carry 105 = .ok (.iinc 2 1, 3) := by decide +kernel
theorem dX11_carry_108 : decode cX11_carry 108 = .ok (.goto (-106), 3) := by decide +kernel
theorem dX11_carry_111 : decode cX11_carry 111 = .ok (.return_, 1) := by decide +kernel
theorem dX11_plus_0 : decode cX11_plus 0 = .ok (.iconst 0, 1) := by decide +kernel
theorem dX11_plus_1 : decode cX11_plus 1 = .ok (.istore 4, 2) := by decide +kernel
theorem dX11_plus_3 : decode cX11_plus 3 = .ok (.iload 4, 2) := by decide +kernel
theorem dX11_plus_5 : decode cX11_plus 5 = .ok (.bipush 16, 2) := by decide +kernel
theorem dX11_plus_7 : decode cX11_plus 7 = .ok (.if_icmp .ge 46, 3) := by decide +kernel
theorem dX11_plus_10 : decode cX11_plus 10 = .ok (.aload_n 0, 1) := by decide +kernel
theorem dX11_plus_11 : decode cX11_plus 11 = .ok (.getfield 109, 3) := by decide +kernel
theorem dX11_plus_14 : decode cX11_plus 14 = .ok (.bipush 16, 2) := by decide +kernel
theorem dX11_plus_16 : decode cX11_plus 16 = .ok (.iload_n 1, 1) := by decide +kernel
theorem dX11_plus_17 : decode cX11_plus 17 = .ok (.imul, 1) := by decide +kernel
theorem dX11_plus_18 : decode cX11_plus 18 = .ok (.iload 4, 2) := by decide +kernel
theorem dX11_plus_20 : decode cX11_plus 20 = .ok (.iadd, 1) := by decide +kernel
theorem dX11_plus_21 : decode cX11_plus 21 = .ok (.aload_n 0, 1) := by decide +kernel
theorem dX11_plus_22 : decode cX11_plus 22 = .ok (.getfield 109, 3) := by decide +kernel
theorem dX11_plus_25 : decode cX11_plus 25 = .ok (.bipush 16, 2) := by decide +kernel
theorem dX11_plus_27 : decode cX11_plus 27 = .ok (.iload_n 2, 1) := by decide +kernel
theorem dX11_plus_28 : decode cX11_plus 28 = .ok (.imul, 1) := by decide +kernel
theorem dX11_plus_29 : decode cX11_plus 29 = .ok (.iload 4, 2) := by decide +kernel
theorem dX11_plus_31 : decode cX11_plus 31 = .ok (.iadd, 1) := by decide +kernel
theorem dX11_plus_32 : decode cX11_plus 32 = .ok (.laload, 1) := by decide +kernel
theorem dX11_plus_33 : decode cX11_plus 33 = .ok (.aload_n 0, 1) := by decide +kernel
theorem dX11_plus_34 : decode cX11_plus 34 = .ok (.getfield 109, 3) := by decide +kernel
theorem dX11_plus_37 : decode cX11_plus 37 = .ok (.bipush 16, 2) := by decide +kernel
theorem dX11_plus_39 : decode cX11_plus 39 = .ok (.iload_n 3, 1) := by decide +kernel
theorem dX11_plus_40 : decode cX11_plus 40 = .ok (.imul, 1) := by decide +kernel
theorem dX11_plus_41 : decode cX11_plus 41 = .ok (.iload 4, 2) := by decide +kernel
theorem dX11_plus_43 : decode cX11_plus 43 = .ok (.iadd, 1) := by decide +kernel
theorem dX11_plus_44 : decode cX11_plus 44 = .ok (.laload, 1) := by decide +kernel
theorem dX11_plus_45 : decode cX11_plus 45 = .ok (.ladd, 1) := by decide +kernel
theorem dX11_plus_46 : decode cX11_plus 46 = .ok (.lastore, 1) := by decide +kernel
theorem dX11_plus_47 : decode cX11_plus 47 = .ok (.iinc 4 1, 3) := by decide +kernel
theorem dX11_plus_50 : decode cX11_plus 50 = .ok (.goto (-47), 3) := by decide +kernel
theorem dX11_plus_53 : decode cX11_plus 53 = .ok (.return_, 1) := by decide +kernel
theorem dX11_minus_0 : decode cX11_minus 0 = .ok (.iconst 0, 1) := by decide +kernel
theorem dX11_minus_1 : decode cX11_minus 1 = .ok (.istore 4, 2) := by decide +kernel
theorem dX11_minus_3 : decode cX11_minus 3 = .ok (.iload 4, 2) := by decide +kernel
theorem dX11_minus_5 : decode cX11_minus 5 = .ok (.bipush 16, 2) := by decide +kernel
theorem dX11_minus_7 : decode cX11_minus 7 = .ok (.if_icmp .ge 46, 3) := by decide +kernel
theorem dX11_minus_10 : decode cX11_minus 10 = .ok (.aload_n 0, 1) := by decide +kernel
theorem dX11_minus_11 : decode cX11_minus 11 = .ok (.getfield 109, 3) := by decide +kernel
theorem dX11_minus_14 : decode cX11_minus 14 = .ok (.bipush 16, 2) := by decide +kernel
theorem dX11_minus_16 : decode cX11_minus 16 = .ok (.iload_n 1, 1) := by decide +kernel
theorem dX11_minus_17 : decode cX11_minus 17 = .ok (.imul, 1) := by decide +kernel
theorem dX11_minus_18 : decode cX11_minus 18 = .ok (.iload 4, 2) := by decide +kernel
theorem dX11_minus_20 : decode cX11_minus 20 = .ok (.iadd, 1) := by decide +kernel
theorem dX11_minus_21 : decode cX11_minus 21 = .ok (.aload_n 0, 1) := by decide +kernel
theorem dX11_minus_22 : decode cX11_minus 22 = .ok (.getfield 109, 3) := by decide +kernel
theorem dX11_minus_25 : decode cX11_minus 25 = .ok (.bipush 16, 2) := by decide +kernel
theorem dX11_minus_27 : decode cX11_minus 27 = .ok (.iload_n 2, 1) := by decide +kernel
theorem dX11_minus_28 : decode cX11_minus 28 = .ok (.imul, 1) := by decide +kernel
theorem dX11_minus_29 : decode cX11_minus 29 = .ok (.iload 4, 2) := by decide +kernel
theorem dX11_minus_31 : decode cX11_minus 31 = .ok (.iadd, 1) := by decide +kernel
theorem dX11_minus_32 : decode cX11_minus 32 = .ok (.laload, 1) := by decide +kernel
theorem dX11_minus_33 : decode cX11_minus 33 = .ok (.aload_n 0, 1) := by decide +kernel
theorem dX11_minus_34 : decode cX11_minus 34 = .ok (.getfield 109, 3) := by decide +kernel
theorem dX11_minus_37 : decode cX11_minus 37 = .ok (.bipush 16, 2) := by decide +kernel
theorem dX11_minus_39 : decode cX11_minus 39 = .ok (.iload_n 3, 1) := by decide +kernel
theorem dX11_minus_40 : decode cX11_minus 40 = .ok (.imul, 1) := by decide +kernel
theorem dX11_minus_41 : decode cX11_minus 41 = .ok (.iload 4, 2) := by decide +kernel
theorem dX11_minus_43 : decode cX11_minus 43 = .ok (.iadd, 1) := by decide +kernel
theorem dX11_minus_44 : decode cX11_minus 44 = .ok (.laload, 1) := by decide +kernel
theorem dX11_minus_45 : decode cX11_minus 45 = .ok (.lsub, 1) := by decide +kernel
theorem dX11_minus_46 : decode cX11_minus 46 = .ok (.lastore, 1) := by decide +kernel
theorem dX11_minus_47 : decode cX11_minus 47 = .ok (.iinc 4 1, 3) := by decide +kernel
theorem dX11_minus_50 : decode cX11_minus 50 = .ok (.goto (-47), 3) := by decide +kernel
theorem dX11_minus_53 : decode cX11_minus 53 = .ok (.return_, 1) := by decide +kernel
theorem dX11_times_0 : decode cX11_times 0 = .ok (.iconst 0, 1) := by decide +kernel
theorem dX11_times_1 : decode cX11_times 1 = .ok (.istore 4, 2) := by decide +kernel
theorem dX11_times_3 : decode cX11_times 3 = .ok (.iload 4, 2) := by decide +kernel
theorem dX11_times_5 : decode cX11_times 5 = .ok (.bipush 31, 2) := by decide +kernel
theorem dX11_times_7 : decode cX11_times 7 = .ok (.if_icmp .ge 17, 3) := by decide +kernel
theorem dX11_times_10 : decode cX11_times 10 = .ok (.aload_n 0, 1) := by decide +kernel
theorem dX11_times_11 : decode cX11_times 11 = .ok (.getfield 113, 3) := by decide +kernel
theorem dX11_times_14 : decode cX11_times 14 = .ok (.iload 4, 2) := by decide +kernel
theorem dX11_times_16 : decode cX11_times 16 = .ok (.lconst 0, 1) := by decide +kernel
theorem dX11_times_17 : decode cX11_times 17 = .ok (.lastore, 1) := by decide +kernel
theorem dX11_times_18 : decode cX11_times 18 = .ok (.iinc 4 1, 3) := by decide +kernel
theorem dX11_times_21 : decode cX11_times 21 = .ok (.goto (-18), 3) := by decide +kernel
theorem dX11_times_24 : decode cX11_times 24 = .ok (.iconst 0, 1) := by decide +kernel
theorem dX11_times_25 : decode cX11_times 25 = .ok (.istore 4, 2) := by decide +kernel
theorem dX11_times_27 : decode cX11_times 27 = .ok (.iload 4, 2) := by decide +kernel
theorem dX11_times_29 : decode cX11_times 29 = .ok (.bipush 16, 2) := by decide +kernel
theorem dX11_times_31 : decode cX11_times 31 = .ok (.if_icmp .ge 63, 3) := by decide +kernel
theorem dX11_times_34 : decode cX11_times 34 = .ok (.iconst 0, 1) := by decide +kernel
theorem dX11_times_35 : decode cX11_times 35 = .ok (.istore 5, 2) := by decide +kernel
theorem dX11_times_37 : decode cX11_times 37 = .ok (.iload 5, 2) := by decide +kernel
theorem dX11_times_39 : decode cX11_times 39 = .ok (.bipush 16, 2) := by decide +kernel
theorem dX11_times_41 : decode cX11_times 41 = .ok (.if_icmp .ge 47, 3) := by decide +kernel
theorem dX11_times_44 : decode cX11_times 44 = .ok (.aload_n 0, 1) := by decide +kernel
theorem dX11_times_45 : decode cX11_times 45 = .ok (.getfield 113, 3) := by decide +kernel
theorem dX11_times_48 : decode cX11_times 48 = .ok (.iload 4, 2) := by decide +kernel
theorem dX11_times_50 : decode cX11_times 50 = .ok (.iload 5, 2) := by decide +kernel
theorem dX11_times_52 : decode cX11_times 52 = .ok (.iadd, 1) := by decide +kernel
theorem dX11_times_53 : decode cX11_times 53 = .ok (.dup2, 1) := by decide +kernel
theorem dX11_times_54 : decode cX11_times 54 = .ok (.laload, 1) := by decide +kernel
theorem dX11_times_55 : decode cX11_times 55 = .ok (.aload_n 0, 1) := by decide +kernel
theorem dX11_times_56 : decode cX11_times 56 = .ok (.getfield 109, 3) := by decide +kernel
theorem dX11_times_59 : decode cX11_times 59 = .ok (.bipush 16, 2) := by decide +kernel
theorem dX11_times_61 : decode cX11_times 61 = .ok (.iload_n 2, 1) := by decide +kernel
theorem dX11_times_62 : decode cX11_times 62 = .ok (.imul, 1) := by decide +kernel
theorem dX11_times_63 : decode cX11_times 63 = .ok (.iload 4, 2) := by decide +kernel
theorem dX11_times_65 : decode cX11_times 65 = .ok (.iadd, 1) := by decide +kernel
theorem dX11_times_66 : decode cX11_times 66 = .ok (.laload, 1) := by decide +kernel
theorem dX11_times_67 : decode cX11_times 67 = .ok (.aload_n 0, 1) := by decide +kernel
theorem dX11_times_68 : decode cX11_times 68 = .ok (.getfield 109, 3) := by decide +kernel
theorem dX11_times_71 : decode cX11_times 71 = .ok (.bipush 16, 2) := by decide +kernel
theorem dX11_times_73 : decode cX11_times 73 = .ok (.iload_n 3, 1) := by decide +kernel
theorem dX11_times_74 : decode cX11_times 74 = .ok (.imul, 1) := by decide +kernel
theorem dX11_times_75 : decode cX11_times 75 = .ok (.iload 5, 2) := by decide +kernel
theorem dX11_times_77 : decode cX11_times 77 = .ok (.iadd, 1) := by decide +kernel
theorem dX11_times_78 : decode cX11_times 78 = .ok (.laload, 1) := by decide +kernel
theorem dX11_times_79 : decode cX11_times 79 = .ok (.lmul, 1) := by decide +kernel
theorem dX11_times_80 : decode cX11_times 80 = .ok (.ladd, 1) := by decide +kernel
theorem dX11_times_81 : decode cX11_times 81 = .ok (.lastore, 1) := by decide +kernel
theorem dX11_times_82 : decode cX11_times 82 = .ok (.iinc 5 1, 3) := by decide +kernel
theorem dX11_times_85 : decode cX11_times 85 = .ok (.goto (-48), 3) := by decide +kernel
theorem dX11_times_88 : decode cX11_times 88 = .ok (.iinc 4 1, 3) := by decide +kernel
theorem dX11_times_91 : decode cX11_times 91 = .ok (.goto (-64), 3) := by decide +kernel
theorem dX11_times_94 : decode cX11_times 94 = .ok (.iconst 0, 1) := by decide +kernel
theorem dX11_times_95 : decode cX11_times 95 = .ok (.istore 4, 2) := by decide +kernel
theorem dX11_times_97 : decode cX11_times 97 = .ok (.iload 4, 2) := by decide +kernel
theorem dX11_times_99 : decode cX11_times 99 = .ok (.bipush 15, 2) := by decide +kernel
theorem dX11_times_101 : decode cX11_times 101 = .ok (.if_icmp .ge 33, 3) := by decide +kernel
theorem dX11_times_104 : decode cX11_times 104 = .ok (.aload_n 0, 1) := by decide +kernel
theorem dX11_times_105 : decode cX11_times 105 = .ok (.getfield 113, 3) := by decide +kernel
theorem dX11_times_108 : decode cX11_times 108 = .ok (.iload 4, 2) := by decide +kernel
theorem dX11_times_110 : decode cX11_times 110 = .ok (.dup2, 1) := by decide +kernel
theorem dX11_times_111 : decode cX11_times 111 = .ok (.laload, 1) := by decide +kernel
theorem dX11_times_112 : decode cX11_times 112 = .ok (.ldc2_w 288, 3) := by decide +kernel
theorem dX11_times_115 : decode cX11_times 115 = .ok (.aload_n 0, 1) := by decide +kernel
theorem dX11_times_116 : decode cX11_times 116 = .ok (.getfield 113, 3) := by decide +kernel
theorem dX11_times_119 : decode cX11_times 119 = .ok (.iload 4, 2) := by decide +kernel
theorem dX11_times_121 : decode cX11_times 121 = .ok (.bipush 16, 2) := by decide +kernel
theorem dX11_times_123 : decode cX11_times 123 = .ok (.iadd, 1) := by decide +kernel
theorem dX11_times_124 : decode cX11_times 124 = .ok (.laload, 1) := by decide +kernel
theorem dX11_times_125 : decode cX11_times 125 = .ok (.lmul, 1) := by decide +kernel
theorem dX11_times_126 : decode cX11_times 126 = .ok (.ladd, 1) := by decide +kernel
theorem dX11_times_127 : decode cX11_times 127 = .ok (.lastore, 1) := by decide +kernel
theorem dX11_times_128 : decode cX11_times 128 = .ok (.iinc 4 1, 3) := by decide +kernel
theorem dX11_times_131 : decode cX11_times 131 = .ok (.goto (-34), 3) := by decide +kernel
theorem dX11_times_134 : decode cX11_times 134 = .ok (.iconst 0, 1) := by decide +kernel
theorem dX11_times_135 : decode cX11_times 135 = .ok (.istore 4, 2) := by decide +kernel
theorem dX11_times_137 : decode cX11_times 137 = .ok (.iload 4, 2) := by decide +kernel
theorem dX11_times_139 : decode cX11_times 139 = .ok (.bipush 16, 2) := by decide +kernel
theorem dX11_times_141 : decode cX11_times 141 = .ok (.if_icmp .ge 28, 3) := by decide +kernel
theorem dX11_times_144 : decode cX11_times 144 = .ok (.aload_n 0, 1) := by decide +kernel
theorem dX11_times_145 : decode cX11_times 145 = .ok (.getfield 109, 3) := by decide +kernel
theorem dX11_times_148 : decode cX11_times 148 = .ok (.bipush 16, 2) := by decide +kernel
theorem dX11_times_150 : decode cX11_times 150 = .ok (.iload_n 1, 1) := by decide +kernel
theorem dX11_times_151 : decode cX11_times 151 = .ok (.imul, 1) := by decide +kernel
theorem dX11_times_152 : decode cX11_times 152 = .ok (.iload 4, 2) := by decide +kernel
theorem dX11_times_154 : decode cX11_times 154 = .ok (.iadd, 1) := by decide +kernel
theorem dX11_times_155 : decode cX11_times 155 = .ok (.aload_n 0, 1) := by decide +kernel
theorem dX11_times_156 : decode cX11_times 156 = .ok (.getfield 113, 3) := by decide +kernel
theorem dX11_times_159 : decode cX11_times 159 = .ok (.iload 4, 2) := by decide +kernel
theorem dX11_times_161 : decode cX11_times 161 = .ok (.laload, 1) := by decide +kernel
theorem dX11_times_162 : decode cX11_times 162 = .ok (.lastore, 1) := by decide +kernel
theorem dX11_times_163 : decode cX11_times 163 = .ok (.iinc 4 1, 3) := by decide +kernel
theorem dX11_times_166 : decode cX11_times 166 = .ok (.goto (-29), 3) := by decide +kernel
theorem dX11_times_169 : decode cX11_times 169 = .ok (.aload_n 0, 1) := by decide +kernel
theorem dX11_times_170 : decode cX11_times 170 = .ok (.iload_n 1, 1) := by decide +kernel
theorem dX11_times_171 : decode cX11_times 171 = .ok (.invokevirtual 290, 3) := by decide +kernel
theorem dX11_times_174 : decode cX11_times 174 = .ok (.aload_n 0, 1) := by decide +kernel
theorem dX11_times_175 : decode cX11_times 175 = .ok (.iload_n 1, 1) := by decide +kernel
theorem dX11_times_176 : decode cX11_times 176 = .ok (.invokevirtual 290, 3) := by decide +kernel
theorem dX11_times_179 : decode cX11_times 179 = .ok (.return_, 1) := by decide +kernel
theorem dX11_exchange_0 : decode cX11_exchange 0 = .ok (.iconst 0, 1) := by decide +kernel
theorem dX11_exchange_1 : decode cX11_exchange 1 = .ok (.istore 4, 2) := by decide +kernel
theorem dX11_exchange_3 : decode cX11_exchange 3 = .ok (.iload 4, 2) := by decide +kernel
theorem dX11_exchange_5 : decode cX11_exchange 5 = .ok (.bipush 16, 2) := by decide +kernel
theorem dX11_exchange_7 : decode cX11_exchange 7 = .ok (.if_icmp .ge 65, 3) := by decide +kernel
theorem dX11_exchange_10 : decode cX11_exchange 10 = .ok (.iload_n 3, 1) := by decide +kernel
theorem dX11_exchange_11 : decode cX11_exchange 11 = .ok (.ifCond .eq 61, 3) := by decide +kernel
theorem dX11_exchange_14 : decode cX11_exchange 14 = .ok (.aload_n 0, 1) := by decide +kernel
theorem dX11_exchange_15 : decode cX11_exchange 15 = .ok (.getfield 109, 3) := by decide +kernel
theorem dX11_exchange_18 : decode cX11_exchange 18 = .ok (.bipush 16, 2) := by decide +kernel
theorem dX11_exchange_20 : decode cX11_exchange 20 = .ok (.iload_n 1, 1) := by decide +kernel
theorem dX11_exchange_21 : decode cX11_exchange 21 = .ok (.imul, 1) := by decide +kernel
theorem dX11_exchange_22 : decode cX11_exchange 22 = .ok (.iload 4, 2) := by decide +kernel
theorem dX11_exchange_24 : decode cX11_exchange 24 = .ok (.iadd, 1) := by decide +kernel
theorem dX11_exchange_25 : decode cX11_exchange 25 = .ok (.laload, 1) := by decide +kernel
theorem dX11_exchange_26 : decode cX11_exchange 26 = .ok (.lstore 5, 2) := by decide +kernel
theorem dX11_exchange_28 : decode cX11_exchange 28 = .ok (.aload_n 0, 1) := by decide +kernel
theorem dX11_exchange_29 : decode cX11_exchange 29 = .ok (.getfield 109, 3) := by decide +kernel
theorem dX11_exchange_32 : decode cX11_exchange 32 = .ok (.bipush 16, 2) := by decide +kernel
theorem dX11_exchange_34 : decode cX11_exchange 34 = .ok (.iload_n 1, 1) := by decide +kernel
theorem dX11_exchange_35 : decode cX11_exchange 35 = .ok (.imul, 1) := by decide +kernel
theorem dX11_exchange_36 : decode cX11_exchange 36 = .ok (.iload 4, 2) := by decide +kernel
theorem dX11_exchange_38 : decode cX11_exchange 38 = .ok (.iadd, 1) := by decide +kernel
theorem dX11_exchange_39 : decode cX11_exchange 39 = .ok (.aload_n 0, 1) := by decide +kernel
theorem dX11_exchange_40 : decode cX11_exchange 40 = .ok (.getfield 109, 3) := by decide +kernel
theorem dX11_exchange_43 : decode cX11_exchange 43 = .ok (.bipush 16, 2) := by decide +kernel
theorem dX11_exchange_45 : decode cX11_exchange 45 = .ok (.iload_n 2, 1) := by decide +kernel
theorem dX11_exchange_46 : decode cX11_exchange 46 = .ok (.imul, 1) := by decide +kernel
theorem dX11_exchange_47 : decode cX11_exchange 47 = .ok (.iload 4, 2) := by decide +kernel
theorem dX11_exchange_49 : decode cX11_exchange 49 = .ok (.iadd, 1) := by decide +kernel
theorem dX11_exchange_50 : decode cX11_exchange 50 = .ok (.laload, 1) := by decide +kernel
theorem dX11_exchange_51 : decode cX11_exchange 51 = .ok (.lastore, 1) := by decide +kernel
theorem dX11_exchange_52 : decode cX11_exchange 52 = .ok (.aload_n 0, 1) := by decide +kernel
theorem dX11_exchange_53 : decode cX11_exchange 53 = .ok (.getfield 109, 3) := by decide +kernel
theorem dX11_exchange_56 : decode cX11_exchange 56 = .ok (.bipush 16, 2) := by decide +kernel
theorem dX11_exchange_58 : decode cX11_exchange 58 = .ok (.iload_n 2, 1) := by decide +kernel
theorem dX11_exchange_59 : decode cX11_exchange 59 = .ok (.imul, 1) := by decide +kernel
theorem dX11_exchange_60 : decode cX11_exchange 60 = .ok (.iload 4, 2) := by decide +kernel
theorem dX11_exchange_62 : decode cX11_exchange 62 = .ok (.iadd, 1) := by decide +kernel
theorem dX11_exchange_63 : decode cX11_exchange 63 = .ok (.lload 5, 2) := by decide +kernel
theorem dX11_exchange_65 : decode cX11_exchange 65 = .ok (.lastore, 1) := by decide +kernel
theorem dX11_exchange_66 : decode cX11_exchange 66 = .ok (.iinc 4 1, 3) := by decide +kernel
theorem dX11_exchange_69 : decode cX11_exchange 69 = .ok (.goto (-66), 3) := by decide +kernel
theorem dX11_exchange_72 : decode cX11_exchange 72 = .ok (.return_, 1) := by decide +kernel
theorem dX11_sets_0 : decode cX11_sets 0 = .ok (.iconst 0, 1) := by decide +kernel
theorem dX11_sets_1 : decode cX11_sets 1 = .ok (.istore 4, 2) := by decide +kernel
theorem dX11_sets_3 : decode cX11_sets 3 = .ok (.iload 4, 2) := by decide +kernel
theorem dX11_sets_5 : decode cX11_sets 5 = .ok (.bipush 16, 2) := by decide +kernel
theorem dX11_sets_7 : decode cX11_sets 7 = .ok (.if_icmp .ge 31, 3) := by decide +kernel
theorem dX11_sets_10 : decode cX11_sets 10 = .ok (.aload_n 0, 1) := by decide +kernel
theorem dX11_sets_11 : decode cX11_sets 11 = .ok (.getfield 109, 3) := by decide +kernel
theorem dX11_sets_14 : decode cX11_sets 14 = .ok (.bipush 16, 2) := by decide +kernel
theorem dX11_sets_16 : decode cX11_sets 16 = .ok (.iload_n 1, 1) := by decide +kernel
theorem dX11_sets_17 : decode cX11_sets 17 = .ok (.imul, 1) := by decide +kernel
theorem dX11_sets_18 : decode cX11_sets 18 = .ok (.iload 4, 2) := by decide +kernel
theorem dX11_sets_20 : decode cX11_sets 20 = .ok (.iadd, 1) := by decide +kernel
theorem dX11_sets_21 : decode cX11_sets 21 = .ok (.iload 4, 2) := by decide +kernel
theorem dX11_sets_23 : decode cX11_sets 23 = .ok (.ifCond .ne 7, 3) := by decide +kernel
theorem dX11_sets_26 : decode cX11_sets 26 = .ok (.lload_n 2, 1) := by decide +kernel
theorem dX11_sets_27 : decode cX11_sets 27 = .ok (.goto 4, 3) := by decide +kernel
theorem dX11_sets_30 : decode cX11_sets 30 = .ok (.lconst 0, 1) := by decide +kernel
theorem dX11_sets_31 : decode cX11_sets 31 = .ok (.lastore, 1) := by decide +kernel
theorem dX11_sets_32 : decode cX11_sets 32 = .ok (.iinc 4 1, 3) := by decide +kernel
theorem dX11_sets_35 : decode cX11_sets 35 = .ok (.goto (-32), 3) := by decide +kernel
theorem dX11_sets_38 : decode cX11_sets 38 = .ok (.return_, 1) := by decide +kernel
theorem dX11_copies_0 : decode cX11_copies 0 = .ok (.iconst 0, 1) := by decide +kernel
theorem dX11_copies_1 : decode cX11_copies 1 = .ok (.istore_n 3, 1) := by decide +kernel
theorem dX11_copies_2 : decode cX11_copies 2 = .ok (.iload_n 3, 1) := by decide +kernel
theorem dX11_copies_3 : decode cX11_copies 3 = .ok (.bipush 16, 2) := by decide +kernel
theorem dX11_copies_5 : decode cX11_copies 5 = .ok (.if_icmp .ge 31, 3) := by decide +kernel
theorem dX11_copies_8 : decode cX11_copies 8 = .ok (.aload_n 0, 1) := by decide +kernel
theorem dX11_copies_9 : decode cX11_copies 9 = .ok (.getfield 109, 3) := by decide +kernel
theorem dX11_copies_12 : decode cX11_copies 12 = .ok (.bipush 16, 2) := by decide +kernel
theorem dX11_copies_14 : decode cX11_copies 14 = .ok (.iload_n 1, 1) := by decide +kernel
theorem dX11_copies_15 : decode cX11_copies 15 = .ok (.imul, 1) := by decide +kernel
theorem dX11_copies_16 : decode cX11_copies 16 = .ok (.iload_n 3, 1) := by decide +kernel
theorem dX11_copies_17 : decode cX11_copies 17 = .ok (.iadd, 1) := by decide +kernel
theorem dX11_copies_18 : decode cX11_copies 18 = .ok (.aload_n 0, 1) := by decide +kernel
theorem dX11_copies_19 : decode cX11_copies 19 = .ok (.getfield 109, 3) := by decide +kernel
theorem dX11_copies_22 : decode cX11_copies 22 = .ok (.bipush 16, 2) := by decide +kernel
theorem dX11_copies_24 : decode cX11_copies 24 = .ok (.iload_n 2, 1) := by decide +kernel
theorem dX11_copies_25 : decode cX11_copies 25 = .ok (.imul, 1) := by decide +kernel
theorem dX11_copies_26 : decode cX11_copies 26 = .ok (.iload_n 3, 1) := by decide +kernel
theorem dX11_copies_27 : decode cX11_copies 27 = .ok (.iadd, 1) := by decide +kernel
theorem dX11_copies_28 : decode cX11_copies 28 = .ok (.laload, 1) := by decide +kernel
theorem dX11_copies_29 : decode cX11_copies 29 = .ok (.lastore, 1) := by decide +kernel
theorem dX11_copies_30 : decode cX11_copies 30 = .ok (.iinc 3 1, 3) := by decide +kernel
theorem dX11_copies_33 : decode cX11_copies 33 = .ok (.goto (-31), 3) := by decide +kernel
theorem dX11_copies_36 : decode cX11_copies 36 = .ok (.return_, 1) := by decide +kernel
theorem dX11_ladderStep_0 : decode cX11_ladderStep 0 = .ok (.aload_n 0, 1) := by decide +kernel
theorem dX11_ladderStep_1 : decode cX11_ladderStep 1 = .ok (.iconst 4, 1) := by decide +kernel
theorem dX11_ladderStep_2 : decode cX11_ladderStep 2 = .ok (.iconst 0, 1) := by decide +kernel
theorem dX11_ladderStep_3 : decode cX11_ladderStep 3 = .ok (.iconst 2, 1) := by decide +kernel
theorem dX11_ladderStep_4 : decode cX11_ladderStep 4 = .ok (.invokevirtual 294, 3) := by decide +kernel
theorem dX11_ladderStep_7 : decode cX11_ladderStep 7 = .ok (.aload_n 0, 1) := by decide +kernel
theorem dX11_ladderStep_8 : decode cX11_ladderStep 8 = .ok (.iconst 0, 1) := by decide +kernel
theorem dX11_ladderStep_9 : decode cX11_ladderStep 9 = .ok (.iconst 0, 1) := by decide +kernel
theorem dX11_ladderStep_10 : decode cX11_ladderStep 10 = .ok (.iconst 2, 1) := by decide +kernel
theorem dX11_ladderStep_11 : decode cX11_ladderStep 11 = .ok (.invokevirtual 298, 3) := by decide +kernel
theorem dX11_ladderStep_14 : decode cX11_ladderStep 14 = .ok (.aload_n 0, 1) := by decide +kernel
theorem dX11_ladderStep_15 : decode cX11_ladderStep 15 = .ok (.iconst 2, 1) := by decide +kernel
theorem dX11_ladderStep_16 : decode cX11_ladderStep 16 = .ok (.iconst 1, 1) := by decide +kernel
theorem dX11_ladderStep_17 : decode cX11_ladderStep 17 = .ok (.iconst 3, 1) := by decide +kernel
theorem dX11_ladderStep_18 : decode cX11_ladderStep 18 = .ok (.invokevirtual 294, 3) := by decide +kernel
theorem dX11_ladderStep_21 : decode cX11_ladderStep 21 = .ok (.aload_n 0, 1) := by decide +kernel
theorem dX11_ladderStep_22 : decode cX11_ladderStep 22 = .ok (.iconst 1, 1) := by decide +kernel
theorem dX11_ladderStep_23 : decode cX11_ladderStep 23 = .ok (.iconst 1, 1) := by decide +kernel
theorem dX11_ladderStep_24 : decode cX11_ladderStep 24 = .ok (.iconst 3, 1) := by decide +kernel
theorem dX11_ladderStep_25 : decode cX11_ladderStep 25 = .ok (.invokevirtual 298, 3) := by decide +kernel
theorem dX11_ladderStep_28 : decode cX11_ladderStep 28 = .ok (.aload_n 0, 1) := by decide +kernel
theorem dX11_ladderStep_29 : decode cX11_ladderStep 29 = .ok (.iconst 3, 1) := by decide +kernel
theorem dX11_ladderStep_30 : decode cX11_ladderStep 30 = .ok (.iconst 4, 1) := by decide +kernel
theorem dX11_ladderStep_31 : decode cX11_ladderStep 31 = .ok (.iconst 4, 1) := by decide +kernel
theorem dX11_ladderStep_32 : decode cX11_ladderStep 32 = .ok (.invokevirtual 301, 3) := by decide +kernel
theorem dX11_ladderStep_35 : decode cX11_ladderStep 35 = .ok (.aload_n 0, 1) := by decide +kernel
theorem dX11_ladderStep_36 : decode cX11_ladderStep 36 = .ok (.iconst 5, 1) := by decide +kernel
theorem dX11_ladderStep_37 : decode cX11_ladderStep 37 = .ok (.iconst 0, 1) := by decide +kernel
theorem dX11_ladderStep_38 : decode cX11_ladderStep 38 = .ok (.iconst 0, 1) := by decide +kernel
theorem dX11_ladderStep_39 : decode cX11_ladderStep 39 = .ok (.invokevirtual 301, 3) := by decide +kernel
theorem dX11_ladderStep_42 : decode cX11_ladderStep 42 = .ok (.aload_n 0, 1) := by decide +kernel
theorem dX11_ladderStep_43 : decode cX11_ladderStep 43 = .ok (.iconst 0, 1) := by decide +kernel
theorem dX11_ladderStep_44 : decode cX11_ladderStep 44 = .ok (.iconst 2, 1) := by decide +kernel
theorem dX11_ladderStep_45 : decode cX11_ladderStep 45 = .ok (.iconst 0, 1) := by decide +kernel
theorem dX11_ladderStep_46 : decode cX11_ladderStep 46 = .ok (.invokevirtual 301, 3) := by decide +kernel
theorem dX11_ladderStep_49 : decode cX11_ladderStep 49 = .ok (.aload_n 0, 1) := by decide +kernel
theorem dX11_ladderStep_50 : decode cX11_ladderStep 50 = .ok (.iconst 2, 1) := by decide +kernel
theorem dX11_ladderStep_51 : decode cX11_ladderStep 51 = .ok (.iconst 1, 1) := by decide +kernel
theorem dX11_ladderStep_52 : decode cX11_ladderStep 52 = .ok (.iconst 4, 1) := by decide +kernel
theorem dX11_ladderStep_53 : decode cX11_ladderStep 53 = .ok (.invokevirtual 301, 3) := by decide +kernel
theorem dX11_ladderStep_56 : decode cX11_ladderStep 56 = .ok (.aload_n 0, 1) := by decide +kernel
theorem dX11_ladderStep_57 : decode cX11_ladderStep 57 = .ok (.iconst 4, 1) := by decide +kernel
theorem dX11_ladderStep_58 : decode cX11_ladderStep 58 = .ok (.iconst 0, 1) := by decide +kernel
theorem dX11_ladderStep_59 : decode cX11_ladderStep 59 = .ok (.iconst 2, 1) := by decide +kernel
theorem dX11_ladderStep_60 : decode cX11_ladderStep 60 = .ok (.invokevirtual 294, 3) := by decide +kernel
theorem dX11_ladderStep_63 : decode cX11_ladderStep 63 = .ok (.aload_n 0, 1) := by decide +kernel
theorem dX11_ladderStep_64 : decode cX11_ladderStep 64 = .ok (.iconst 0, 1) := by decide +kernel
theorem dX11_ladderStep_65 : decode cX11_ladderStep 65 = .ok (.iconst 0, 1) := by decide +kernel
theorem dX11_ladderStep_66 : decode cX11_ladderStep 66 = .ok (.iconst 2, 1) := by decide +kernel
theorem dX11_ladderStep_67 : decode cX11_ladderStep 67 = .ok (.invokevirtual 298, 3) := by decide +kernel
theorem dX11_ladderStep_70 : decode cX11_ladderStep 70 = .ok (.aload_n 0, 1) := by decide +kernel
theorem dX11_ladderStep_71 : decode cX11_ladderStep 71 = .ok (.iconst 1, 1) := by decide +kernel
theorem dX11_ladderStep_72 : decode cX11_ladderStep 72 = .ok (.iconst 0, 1) := by decide +kernel
theorem dX11_ladderStep_73 : decode cX11_ladderStep 73 = .ok (.iconst 0, 1) := by decide +kernel
theorem dX11_ladderStep_74 : decode cX11_ladderStep 74 = .ok (.invokevirtual 301, 3) := by decide +kernel
theorem dX11_ladderStep_77 : decode cX11_ladderStep 77 = .ok (.aload_n 0, 1) := by decide +kernel
theorem dX11_ladderStep_78 : decode cX11_ladderStep 78 = .ok (.iconst 2, 1) := by decide +kernel
theorem dX11_ladderStep_79 : decode cX11_ladderStep 79 = .ok (.iconst 3, 1) := by decide +kernel
theorem dX11_ladderStep_80 : decode cX11_ladderStep 80 = .ok (.iconst 5, 1) := by decide +kernel
theorem dX11_ladderStep_81 : decode cX11_ladderStep 81 = .ok (.invokevirtual 298, 3) := by decide +kernel
theorem dX11_ladderStep_84 : decode cX11_ladderStep 84 = .ok (.aload_n 0, 1) := by decide +kernel
theorem dX11_ladderStep_85 : decode cX11_ladderStep 85 = .ok (.iconst 0, 1) := by decide +kernel
theorem dX11_ladderStep_86 : decode cX11_ladderStep 86 = .ok (.iconst 2, 1) := by decide +kernel
theorem dX11_ladderStep_87 : decode cX11_ladderStep 87 = .ok (.bipush 7, 2) := by decide +kernel
theorem dX11_ladderStep_89 : decode cX11_ladderStep 89 = .ok (.invokevirtual 301, 3) := by decide +kernel
theorem dX11_ladderStep_92 : decode cX11_ladderStep 92 = .ok (.aload_n 0, 1) := by decide +kernel
theorem dX11_ladderStep_93 : decode cX11_ladderStep 93 = .ok (.iconst 0, 1) := by decide +kernel
theorem dX11_ladderStep_94 : decode cX11_ladderStep 94 = .ok (.iconst 0, 1) := by decide +kernel
theorem dX11_ladderStep_95 : decode cX11_ladderStep 95 = .ok (.iconst 3, 1) := by decide +kernel
theorem dX11_ladderStep_96 : decode cX11_ladderStep 96 = .ok (.invokevirtual 294, 3) := by decide +kernel
theorem dX11_ladderStep_99 : decode cX11_ladderStep 99 = .ok (.aload_n 0, 1) := by decide +kernel
theorem dX11_ladderStep_100 : decode cX11_ladderStep 100 = .ok (.iconst 2, 1) := by decide +kernel
theorem dX11_ladderStep_101 : decode cX11_ladderStep 101 = .ok (.iconst 2, 1) := by decide +kernel
theorem dX11_ladderStep_102 : decode cX11_ladderStep 102 = .ok (.iconst 0, 1) := by decide +kernel
theorem dX11_ladderStep_103 : decode cX11_ladderStep 103 = .ok (.invokevirtual 301, 3) := by decide +kernel
theorem dX11_ladderStep_106 : decode cX11_ladderStep 106 = .ok (.aload_n 0, 1) := by decide +kernel
theorem dX11_ladderStep_107 : decode cX11_ladderStep 107 = .ok (.iconst 0, 1) := by decide +kernel
theorem dX11_ladderStep_108 : decode cX11_ladderStep 108 = .ok (.iconst 3, 1) := by decide +kernel
theorem dX11_ladderStep_109 : decode cX11_ladderStep 109 = .ok (.iconst 5, 1) := by decide +kernel
theorem dX11_ladderStep_110 : decode cX11_ladderStep 110 = .ok (.invokevirtual 301, 3) := by decide +kernel
theorem dX11_ladderStep_113 : decode cX11_ladderStep 113 = .ok (.aload_n 0, 1) := by decide +kernel
theorem dX11_ladderStep_114 : decode cX11_ladderStep 114 = .ok (.iconst 3, 1) := by decide +kernel
theorem dX11_ladderStep_115 : decode cX11_ladderStep 115 = .ok (.iconst 1, 1) := by decide +kernel
theorem dX11_ladderStep_116 : decode cX11_ladderStep 116 = .ok (.bipush 6, 2) := by decide +kernel
theorem dX11_ladderStep_118 : decode cX11_ladderStep 118 = .ok (.invokevirtual 301, 3) := by decide +kernel
theorem dX11_ladderStep_121 : decode cX11_ladderStep 121 = .ok (.aload_n 0, 1) := by decide +kernel
theorem dX11_ladderStep_122 : decode cX11_ladderStep 122 = .ok (.iconst 1, 1) := by decide +kernel
theorem dX11_ladderStep_123 : decode cX11_ladderStep 123 = .ok (.iconst 4, 1) := by decide +kernel
theorem dX11_ladderStep_124 : decode cX11_ladderStep 124 = .ok (.iconst 4, 1) := by decide +kernel
theorem dX11_ladderStep_125 : decode cX11_ladderStep 125 = .ok (.invokevirtual 301, 3) := by decide +kernel
theorem dX11_ladderStep_128 : decode cX11_ladderStep 128 = .ok (.return_, 1) := by decide +kernel
theorem dX11_invert_0 : decode cX11_invert 0 = .ok (.aload_n 0, 1) := by decide +kernel
theorem dX11_invert_1 : decode cX11_invert 1 = .ok (.bipush 8, 2) := by decide +kernel
theorem dX11_invert_3 : decode cX11_invert 3 = .ok (.iconst 2, 1) := by decide +kernel
theorem dX11_invert_4 : decode cX11_invert 4 = .ok (.invokevirtual 304, 3) := by decide +kernel
theorem dX11_invert_7 : decode cX11_invert 7 = .ok (.sipush 253, 3) := by decide +kernel
theorem dX11_invert_10 : decode cX11_invert 10 = .ok (.istore_n 1, 1) := by decide +kernel
theorem dX11_invert_11 : decode cX11_invert 11 = .ok (.iload_n 1, 1) := by decide +kernel
theorem dX11_invert_12 : decode cX11_invert 12 = .ok (.ifCond .lt 38, 3) := by decide +kernel
theorem dX11_invert_15 : decode cX11_invert 15 = .ok (.aload_n 0, 1) := by decide +kernel
theorem dX11_invert_16 : decode cX11_invert 16 = .ok (.bipush 8, 2) := by decide +kernel
theorem dX11_invert_18 : decode cX11_invert 18 = .ok (.bipush 8, 2) := by decide +kernel
theorem dX11_invert_20 : decode cX11_invert 20 = .ok (.bipush 8, 2) := by decide +kernel
theorem dX11_invert_22 : decode cX11_invert 22 = .ok (.invokevirtual 301, 3) := by decide +kernel
theorem dX11_invert_25 : decode cX11_invert 25 = .ok (.iload_n 1, 1) := by decide +kernel
theorem dX11_invert_26 : decode cX11_invert 26 = .ok (.iconst 2, 1) := by decide +kernel
theorem dX11_invert_27 : decode cX11_invert 27 = .ok (.if_icmp .eq 17, 3) := by decide +kernel
theorem dX11_invert_30 : decode cX11_invert 30 = .ok (.iload_n 1, 1) := by decide +kernel
theorem dX11_invert_31 : decode cX11_invert 31 = .ok (.iconst 4, 1) := by decide +kernel
theorem dX11_invert_32 : decode cX11_invert 32 = .ok (.if_icmp .eq 12, 3) := by decide +kernel
theorem dX11_invert_35 : decode cX11_invert 35 = .ok (.aload_n 0, 1) := by decide +kernel
theorem dX11_invert_36 : decode cX11_invert 36 = .ok (.bipush 8, 2) := by decide +kernel
theorem dX11_invert_38 : decode cX11_invert 38 = .ok (.bipush 8, 2) := by decide +kernel
theorem dX11_invert_40 : decode cX11_invert 40 = .ok (.iconst 2, 1) := by decide +kernel
theorem dX11_invert_41 : decode cX11_invert 41 = .ok (.invokevirtual 301, 3) := by decide +kernel
theorem dX11_invert_44 : decode cX11_invert 44 = .ok (.iinc 1 (-1), 3) := by decide +kernel
theorem dX11_invert_47 : decode cX11_invert 47 = .ok (.goto (-36), 3) := by decide +kernel
theorem dX11_invert_50 : decode cX11_invert 50 = .ok (.return_, 1) := by decide +kernel
theorem dX11_packs_0 : decode cX11_packs 0 = .ok (.aload_n 0, 1) := by decide +kernel
theorem dX11_packs_1 : decode cX11_packs 1 = .ok (.bipush 8, 2) := by decide +kernel
theorem dX11_packs_3 : decode cX11_packs 3 = .ok (.iload_n 1, 1) := by decide +kernel
theorem dX11_packs_4 : decode cX11_packs 4 = .ok (.invokevirtual 304, 3) := by decide +kernel
theorem dX11_packs_7 : decode cX11_packs 7 = .ok (.aload_n 0, 1) := by decide +kernel
theorem dX11_packs_8 : decode cX11_packs 8 = .ok (.bipush 8, 2) := by decide +kernel
theorem dX11_packs_10 : decode cX11_packs 10 = .ok (.invokevirtual 290, 3) := by decide +kernel
theorem dX11_packs_13 : decode cX11_packs 13 = .ok (.aload_n 0, 1) := by decide +kernel
theorem dX11_packs_14 : decode cX11_packs 14 = .ok (.bipush 8, 2) := by decide +kernel
theorem dX11_packs_16 : decode cX11_packs 16 = .ok (.invokevirtual 290, 3) := by decide +kernel
theorem dX11_packs_19 : decode cX11_packs 19 = .ok (.aload_n 0, 1) := by decide +kernel
theorem dX11_packs_20 : decode cX11_packs 20 = .ok (.bipush 8, 2) := by decide +kernel
theorem dX11_packs_22 : decode cX11_packs 22 = .ok (.invokevirtual 290, 3) := by decide +kernel
theorem dX11_packs_25 : decode cX11_packs 25 = .ok (.iconst 0, 1) := by decide +kernel
theorem dX11_packs_26 : decode cX11_packs 26 = .ok (.istore 4, 2) := by decide +kernel
theorem dX11_packs_28 : decode cX11_packs 28 = .ok (.iload 4, 2) := by decide +kernel
