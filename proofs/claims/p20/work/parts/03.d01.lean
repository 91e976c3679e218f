theorem dX1_multiply_161 : decode cX1_multiply 161 = .ok (.lstore 55, 2) := by decide +kernel
theorem dX1_multiply_163 : decode cX1_multiply 163 = .ok (.ldc2_w 96, 3) := by decide +kernel
theorem dX1_multiply_166 : decode cX1_multiply 166 = .ok (.lload 29, 2) := by decide +kernel
theorem dX1_multiply_168 : decode cX1_multiply 168 = .ok (.lmul, 1) := by decide +kernel
theorem dX1_multiply_169 : decode cX1_multiply 169 = .ok (.lstore 57, 2) := by decide +kernel
theorem dX1_multiply_171 : decode cX1_multiply 171 = .ok (.ldc2_w 96, 3) := by decide +kernel
theorem dX1_multiply_174 : decode cX1_multiply 174 = .ok (.lload 31, 2) := by decide +kernel
theorem dX1_multiply_176 : decode cX1_multiply 176 = .ok (.lmul, 1) := by decide +kernel
theorem dX1_multiply_177 : decode cX1_multiply 177 = .ok (.lstore 59, 2) := by decide +kernel
theorem dX1_multiply_179 : decode cX1_multiply 179 = .ok (.ldc2_w 96, 3) := by decide +kernel
theorem dX1_multiply_182 : decode cX1_multiply 182 = .ok (.lload 33, 2) := by decide +kernel
theorem dX1_multiply_184 : decode cX1_multiply 184 = .ok (.lmul, 1) := by decide +kernel
theorem dX1_multiply_185 : decode cX1_multiply 185 = .ok (.lstore 61, 2) := by decide +kernel
theorem dX1_multiply_187 : decode cX1_multiply 187 = .ok (.ldc2_w 96, 3) := by decide +kernel
theorem dX1_multiply_190 : decode cX1_multiply 190 = .ok (.lload 35, 2) := by decide +kernel
theorem dX1_multiply_192 : decode cX1_multiply 192 = .ok (.lmul, 1) := by decide +kernel
theorem dX1_multiply_193 : decode cX1_multiply 193 = .ok (.lstore 63, 2) := by decide +kernel
theorem dX1_multiply_195 : decode cX1_multiply 195 = .ok (.ldc2_w 96, 3) := by decide +kernel
theorem dX1_multiply_198 : decode cX1_multiply 198 = .ok (.lload 37, 2) := by decide +kernel
theorem dX1_multiply_200 : decode cX1_multiply 200 = .ok (.lmul, 1) := by decide +kernel
theorem dX1_multiply_201 : decode cX1_multiply 201 = .ok (.lstore 65, 2) := by decide +kernel
theorem dX1_multiply_203 : decode cX1_multiply 203 = .ok (.ldc2_w 96, 3) := by decide +kernel
theorem dX1_multiply_206 : decode cX1_multiply 206 = .ok (.lload 39, 2) := by decide +kernel
theorem dX1_multiply_208 : decode cX1_multiply 208 = .ok (.lmul, 1) := by decide +kernel
theorem dX1_multiply_209 : decode cX1_multiply 209 = .ok (.lstore 67, 2) := by decide +kernel
theorem dX1_multiply_211 : decode cX1_multiply 211 = .ok (.ldc2_w 96, 3) := by decide +kernel
theorem dX1_multiply_214 : decode cX1_multiply 214 = .ok (.lload 41, 2) := by decide +kernel
theorem dX1_multiply_216 : decode cX1_multiply 216 = .ok (.lmul, 1) := by decide +kernel
theorem dX1_multiply_217 : decode cX1_multiply 217 = .ok (.lstore 69, 2) := by decide +kernel
theorem dX1_multiply_219 : decode cX1_multiply 219 = .ok (.aload_n 2, 1) := by decide +kernel
theorem dX1_multiply_220 : decode cX1_multiply 220 = .ok (.iconst 0, 1) := by decide +kernel
theorem dX1_multiply_221 : decode cX1_multiply 221 = .ok (.lload_n 3, 1) := by decide +kernel
theorem dX1_multiply_222 : decode cX1_multiply 222 = .ok (.lload 23, 2) := by decide +kernel
theorem dX1_multiply_224 : decode cX1_multiply 224 = .ok (.lmul, 1) := by decide +kernel
theorem dX1_multiply_225 : decode cX1_multiply 225 = .ok (.lload 43, 2) := by decide +kernel
theorem dX1_multiply_227 : decode cX1_multiply 227 = .ok (.lload 69, 2) := by decide +kernel
theorem dX1_multiply_229 : decode cX1_multiply 229 = .ok (.lmul, 1) := by decide +kernel
theorem dX1_multiply_230 : decode cX1_multiply 230 = .ok (.ladd, 1) := by decide +kernel
theorem dX1_multiply_231 : decode cX1_multiply 231 = .ok (.lload 7, 2) := by decide +kernel
theorem dX1_multiply_233 : decode cX1_multiply 233 = .ok (.lload 67, 2) := by decide +kernel
theorem dX1_multiply_235 : decode cX1_multiply 235 = .ok (.lmul, 1) := by decide +kernel
theorem dX1_multiply_236 : decode cX1_multiply 236 = .ok (.ladd, 1) := by decide +kernel
theorem dX1_multiply_237 : decode cX1_multiply 237 = .ok (.lload 45, 2) := by decide +kernel
theorem dX1_multiply_239 : decode cX1_multiply 239 = .ok (.lload 65, 2) := by decide +kernel
theorem dX1_multiply_241 : decode cX1_multiply 241 = .ok (.lmul, 1) := by decide +kernel
theorem dX1_multiply_242 : decode cX1_multiply 242 = .ok (.ladd, 1) := by decide +kernel
theorem dX1_multiply_243 : decode cX1_multiply 243 = .ok (.lload 11, 2) := by decide +kernel
theorem dX1_multiply_245 : decode cX1_multiply 245 = .ok (.lload 63, 2) := by decide +kernel
theorem dX1_multiply_247 : decode cX1_multiply 247 = .ok (.lmul, 1) := by decide +kernel
theorem dX1_multiply_248 : decode cX1_multiply 248 = .ok (.ladd, 1) := by decide +kernel
theorem dX1_multiply_249 : decode cX1_multiply 249 = .ok (.lload 47, 2) := by decide +kernel
theorem dX1_multiply_251 : decode cX1_multiply 251 = .ok (.lload 61, 2) := by decide +kernel
theorem dX1_multiply_253 : decode cX1_multiply 253 = .ok (.lmul, 1) := by decide +kernel
theorem dX1_multiply_254 : decode cX1_multiply 254 = .ok (.ladd, 1) := by decide +kernel
theorem dX1_multiply_255 : decode cX1_multiply 255 = .ok (.lload 15, 2) := by decide +kernel
theorem dX1_multiply_257 : decode cX1_multiply 257 = .ok (.lload 59, 2) := by decide +kernel
theorem dX1_multiply_259 : decode cX1_multiply 259 = .ok (.lmul, 1) := by decide +kernel
theorem dX1_multiply_260 : decode cX1_multiply 260 = .ok (.ladd, 1) := by decide +kernel
theorem dX1_multiply_261 : decode cX1_multiply 261 = .ok (.lload 49, 2) := by decide +kernel
theorem dX1_multiply_263 : decode cX1_multiply 263 = .ok (.lload 57, 2) := by decide +kernel
theorem dX1_multiply_265 : decode cX1_multiply 265 = .ok (.lmul, 1) := by decide +kernel
theorem dX1_multiply_266 : decode cX1_multiply 266 = .ok (.ladd, 1) := by decide +kernel
theorem dX1_multiply_267 : decode cX1_multiply 267 = .ok (.lload 19, 2) := by decide +kernel
theorem dX1_multiply_269 : decode cX1_multiply 269 = .ok (.lload 55, 2) := by decide +kernel
theorem dX1_multiply_271 : decode cX1_multiply 271 = .ok (.lmul, 1) := by decide +kernel
theorem dX1_multiply_272 : decode cX1_multiply 272 = .ok (.ladd, 1) := by decide +kernel
theorem dX1_multiply_273 : decode cX1_multiply 273 = .ok (.lload 51, 2) := by decide +kernel
theorem dX1_multiply_275 : decode cX1_multiply 275 = .ok (.lload 53, 2) := by decide +kernel
theorem dX1_multiply_277 : decode cX1_multiply 277 = .ok (.lmul, 1) := by decide +kernel
theorem dX1_multiply_278 : decode cX1_multiply 278 = .ok (.ladd, 1) := by decide +kernel
theorem dX1_multiply_279 : decode cX1_multiply 279 = .ok (.lastore, 1) := by decide +kernel
theorem dX1_multiply_280 : decode cX1_multiply 280 = .ok (.aload_n 2, 1) := by decide +kernel
theorem dX1_multiply_281 : decode cX1_multiply 281 = .ok (.iconst 1, 1) := by decide +kernel
theorem dX1_multiply_282 : decode cX1_multiply 282 = .ok (.lload_n 3, 1) := by decide +kernel
theorem dX1_multiply_283 : decode cX1_multiply 283 = .ok (.lload 25, 2) := by decide +kernel
theorem dX1_multiply_285 : decode cX1_multiply 285 = .ok (.lmul, 1) := by decide +kernel
theorem dX1_multiply_286 : decode cX1_multiply 286 = .ok (.lload 5, 2) := by decide +kernel
theorem dX1_multiply_288 : decode cX1_multiply 288 = .ok (.lload 23, 2) := by decide +kernel
theorem dX1_multiply_290 : decode cX1_multiply 290 = .ok (.lmul, 1) := by decide +kernel
theorem dX1_multiply_291 : decode cX1_multiply 291 = .ok (.ladd, 1) := by decide +kernel
theorem dX1_multiply_292 : decode cX1_multiply 292 = .ok (.lload 7, 2) := by decide +kernel
theorem dX1_multiply_294 : decode cX1_multiply 294 = .ok (.lload 69, 2) := by decide +kernel
theorem dX1_multiply_296 : decode cX1_multiply 296 = .ok (.lmul, 1) := by decide +kernel
theorem dX1_multiply_297 : decode cX1_multiply 297 = .ok (.ladd, 1) := by decide +kernel
theorem dX1_multiply_298 : decode cX1_multiply 298 = .ok (.lload 9, 2) := by decide +kernel
theorem dX1_multiply_300 : decode cX1_multiply 300 = .ok (.lload 67, 2) := by decide +kernel
theorem dX1_multiply_302 : decode cX1_multiply 302 = .ok (.lmul, 1) := by decide +kernel
theorem dX1_multiply_303 : decode cX1_multiply 303 = .ok (.ladd, 1) := by decide +kernel
theorem dX1_multiply_304 : decode cX1_multiply 304 = .ok (.lload 11, 2) := by decide +kernel
theorem dX1_multiply_306 : decode cX1_multiply 306 = .ok (.lload 65, 2) := by decide +kernel
theorem dX1_multiply_308 : decode cX1_multiply 308 = .ok (.lmul, 1) := by decide +kernel
theorem dX1_multiply_309 : decode cX1_multiply 309 = .ok (.ladd, 1) := by decide +kernel
theorem dX1_multiply_310 : decode cX1_multiply 310 = .ok (.lload 13, 2) := by decide +kernel
theorem dX1_multiply_312 : decode cX1_multiply 312 = .ok (.lload 63, 2) := by decide +kernel
theorem dX1_multiply_314 : decode cX1_multiply 314 = .ok (.lmul, 1) := by decide +kernel
theorem dX1_multiply_315 : decode cX1_multiply 315 = .ok (.ladd, 1) := by decide +kernel
theorem dX1_multiply_316 : decode cX1_multiply 316 = .ok (.lload 15, 2) := by decide +kernel
theorem dX1_multiply_318 : decode cX1_multiply 318 = .ok (.lload 61, 2) := by decide +kernel
theorem dX1_multiply_320 : decode cX1_multiply 320 = .ok (.lmul, 1) := by decide +kernel
theorem dX1_multiply_321 : decode cX1_multiply 321 = .ok (.ladd, 1) := by decide +kernel
theorem dX1_multiply_322 : decode cX1_multiply 322 = .ok (.lload 17, 2) := by decide +kernel
theorem dX1_multiply_324 : decode cX1_multiply 324 = .ok (.lload 59, 2) := by decide +kernel
theorem dX1_multiply_326 : decode cX1_multiply 326 = .ok (.lmul, 1) := by decide +kernel
theorem dX1_multiply_327 : decode cX1_multiply 327 = .ok (.ladd, 1) := by decide +kernel
theorem dX1_multiply_328 : decode cX1_multiply 328 = .ok (.lload 19, 2) := by decide +kernel
theorem dX1_multiply_330 : decode cX1_multiply 330 = .ok (.lload 57, 2) := by decide +kernel
theorem dX1_multiply_332 : decode cX1_multiply 332 = .ok (.lmul, 1) := by decide +kernel
theorem dX1_multiply_333 : decode cX1_multiply 333 = .ok (.ladd, 1) := by decide +kernel
theorem dX1_multiply_334 : decode cX1_multiply 334 = .ok (.lload 21, 2) := by decide +kernel
theorem dX1_multiply_336 : decode cX1_multiply 336 = .ok (.lload 55, 2) := by decide +kernel
theorem dX1_multiply_338 : decode cX1_multiply 338 = .ok (.lmul, 1) := by decide +kernel
theorem dX1_multiply_339 : decode cX1_multiply 339 = .ok (.ladd, 1) := by decide +kernel
theorem dX1_multiply_340 : decode cX1_multiply 340 = .ok (.lastore, 1) := by decide +kernel
theorem dX1_multiply_341 : decode cX1_multiply 341 = .ok (.aload_n 2, 1) := by decide +kernel
theorem dX1_multiply_342 : decode cX1_multiply 342 = .ok (.iconst 2, 1) := by decide +kernel
theorem dX1_multiply_343 : decode cX1_multiply 343 = .ok (.lload_n 3, 1) := by decide +kernel
theorem dX1_multiply_344 : decode cX1_multiply 344 = .ok (.lload 27, 2) := by decide +kernel
theorem dX1_multiply_346 : decode cX1_multiply 346 = .ok (.lmul, 1) := by decide +kernel
theorem dX1_multiply_347 : decode cX1_multiply 347 = .ok (.lload 43, 2) := by decide +kernel
theorem dX1_multiply_349 : decode cX1_multiply 349 = .ok (.lload 25, 2) := by decide +kernel
theorem dX1_multiply_351 : decode cX1_multiply 351 = .ok (.lmul, 1) := by decide +kernel
theorem dX1_multiply_352 : decode cX1_multiply 352 = .ok (.ladd, 1) := by decide +kernel
theorem dX1_multiply_353 : decode cX1_multiply 353 = .ok (.lload 7, 2) := by decide +kernel
theorem dX1_multiply_355 : decode cX1_multiply 355 = .ok (.lload 23, 2) := by decide +kernel
theorem dX1_multiply_357 : decode cX1_multiply 357 = .ok (.lmul, 1) := by decide +kernel
theorem dX1_multiply_358 : decode cX1_multiply 358 = .ok (.ladd, 1) := by decide +kernel
theorem dX1_multiply_359 : decode cX1_multiply 359 = .ok (.lload 45, 2) := by decide +kernel
theorem dX1_multiply_361 : decode cX1_multiply 361 = .ok (.lload 69, 2) := by decide +kernel
theorem dX1_multiply_363 : decode cX1_multiply 363 = .ok (.lmul, 1) := by decide +kernel
theorem dX1_multiply_364 : decode cX1_multiply 364 = .ok (.ladd, 1) := by decide +kernel
theorem dX1_multiply_365 : decode cX1_multiply 365 = .ok (.lload 11, 2) := by decide +kernel
theorem dX1_multiply_367 : decode cX1_multiply 367 = .ok (.lload 67, 2) := by decide +kernel
theorem dX1_multiply_369 : decode cX1_multiply 369 = .ok (.lmul, 1) := by decide +kernel
theorem dX1_multiply_370 : decode cX1_multiply 370 = .ok (.ladd, 1) := by decide +kernel
theorem dX1_multiply_371 : decode cX1_multiply 371 = .ok (.lload 47, 2) := by decide +kernel
theorem dX1_multiply_373 : decode cX1_multiply 373 = .ok (.lload 65, 2) := by decide +kernel
theorem dX1_multiply_375 : decode cX1_multiply 375 = .ok (.lmul, 1) := by decide +kernel
theorem dX1_multiply_376 : decode cX1_multiply 376 = .ok (.ladd, 1) := by decide +kernel
theorem dX1_multiply_377 : decode cX1_multiply 377 = .ok (.lload 15, 2) := by decide +kernel
theorem dX1_multiply_379 : decode cX1_multiply 379 = .ok (.lload 63, 2) := by decide +kernel
theorem dX1_multiply_381 : decode cX1_multiply 381 = .ok (.lmul, 1) := by decide +kernel
theorem dX1_multiply_382 : decode cX1_multiply 382 = .ok (.ladd, 1) := by decide +kernel
theorem dX1_multiply_383 : decode cX1_multiply 383 = .ok (.lload 49, 2) := by decide +kernel
theorem dX1_multiply_385 : decode cX1_multiply 385 = .ok (.lload 61, 2) := by decide +kernel
theorem dX1_multiply_387 : decode cX1_multiply 387 = .ok (.lmul, 1) := by decide +kernel
theorem dX1_multiply_388 : decode cX1_multiply 388 = .ok (.ladd, 1) := by decide +kernel
theorem dX1_multiply_389 : decode cX1_multiply 389 = .ok (.lload 19, 2) := by decide +kernel
theorem dX1_multiply_391 : decode cX1_multiply 391 = .ok (.lload 59, 2) := by decide +kernel
theorem dX1_multiply_393 : decode cX1_multiply 393 = .ok (.lmul, 1) := by decide +kernel
theorem dX1_multiply_394 : decode cX1_multiply 394 = .ok (.ladd, 1) := by decide +kernel
theorem dX1_multiply_395 : decode cX1_multiply 395 = .ok (.lload 51, 2) := by decide +kernel
theorem dX1_multiply_397 : decode cX1_multiply 397 = .ok (.lload 57, 2) := by decide +kernel
theorem dX1_multiply_399 : decode cX1_multiply 399 = .ok (.lmul, 1) := by decide +kernel
theorem dX1_multiply_400 : decode cX1_multiply 400 = .ok (.ladd, 1) := by decide +kernel
theorem dX1_multiply_401 : decode cX1_multiply 401 = .ok (.lastore, 1) := by decide +kernel
theorem dX1_multiply_402 : decode cX1_multiply 402 = .ok (.aload_n 2, 1) := by decide +kernel
theorem dX1_multiply_403 : decode cX1_multiply 403 = .ok (.iconst 3, 1) := by decide +kernel
theorem dX1_multiply_404 : decode cX1_multiply 404 = .ok (.lload_n 3, 1) := by decide +kernel
theorem dX1_multiply_405 : decode cX1_multiply 405 = .ok (.lload 29, 2) := by decide +kernel
theorem dX1_multiply_407 : decode cX1_multiply 407 = .ok (.lmul, 1) := by decide +kernel
theorem dX1_multiply_408 : decode cX1_multiply 408 = .ok (.lload 5, 2) := by decide +kernel
theorem dX1_multiply_410 : decode cX1_multiply 410 = .ok (.lload 27, 2) := by decide +kernel
theorem dX1_multiply_412 : decode cX1_multiply 412 = .ok (.lmul, 1) := by decide +kernel
theorem dX1_multiply_413 : decode cX1_multiply 413 = .ok (.ladd, 1) := by decide +kernel
theorem dX1_multiply_414 : decode cX1_multiply 414 = .ok (.lload 7, 2) := by decide +kernel
theorem dX1_multiply_416 : decode cX1_multiply 416 = .ok (.lload 25, 2) := by decide +kernel
theorem dX1_multiply_418 : decode cX1_multiply 418 = .ok (.lmul, 1) := by decide +kernel
theorem dX1_multiply_419 : decode cX1_multiply 419 = .ok (.ladd, 1) := by decide +kernel
theorem dX1_multiply_420 : decode cX1_multiply 420 = .ok (.lload 9, 2) := by decide +kernel
theorem dX1_multiply_422 : decode cX1_multiply 422 = .ok (.lload 23, 2) := by decide +kernel
theorem dX1_multiply_424 : decode cX1_multiply 424 = .ok (.lmul, 1) := by decide +kernel
theorem dX1_multiply_425 : decode cX1_multiply 425 = .ok (.ladd, 1) := by decide +kernel
theorem dX1_multiply_426 : decode cX1_multiply 426 = .ok (.lload 11, 2) := by decide +kernel
theorem dX1_multiply_428 : decode cX1_multiply 428 = .ok (.lload 69, 2) := by decide +kernel
theorem dX1_multiply_430 : decode cX1_multiply 430 = .ok (.lmul, 1) := by decide +kernel
theorem dX1_multiply_431 : decode cX1_multiply 431 = .ok (.ladd, 1) := by decide +kernel
theorem dX1_multiply_432 : decode cX1_multiply 432 = .ok (.lload 13, 2) := by decide +kernel
theorem dX1_multiply_434 : decode cX1_multiply 434 = .ok (.lload 67, 2) := by decide +kernel
theorem dX1_multiply_436 : decode cX1_multiply 436 = .ok (.lmul, 1) := by decide +kernel
theorem dX1_multiply_437 : decode cX1_multiply 437 = .ok (.ladd, 1) := by decide +kernel
theorem dX1_multiply_438 : decode cX1_multiply 438 = .ok (.lload 15, 2) := by decide +kernel
theorem dX1_multiply_440 : decode cX1_multiply 440 = .ok (.lload 65, 2) := by decide +kernel
theorem dX1_multiply_442 : decode cX1_multiply 442 = .ok (.lmul, 1) := by decide +kernel
theorem dX1_multiply_443 : decode cX1_multiply 443 = .ok (.ladd, 1) := by decide +kernel
theorem dX1_multiply_444 : decode cX1_multiply 444 = .ok (.lload 17, 2) := by decide +kernel
theorem dX1_multiply_446 : decode cX1_multiply 446 = .ok (.lload 63, 2) := by decide +kernel
theorem dX1_multiply_448 : decode cX1_multiply 448 = .ok (.lmul, 1) := by decide +kernel
theorem dX1_multiply_449 : decode cX1_multiply 449 = .ok (.ladd, 1) := by decide +kernel
theorem dX1_multiply_450 : decode cX1_multiply 450 = .ok (.lload 19, 2) := by decide +kernel
theorem dX1_multiply_452 : decode cX1_multiply 452 = .ok (.lload 61, 2) := by decide +kernel
theorem dX1_multiply_454 : decode cX1_multiply 454 = .ok (.lmul, 1) := by decide +kernel
theorem dX1_multiply_455 : decode cX1_multiply 455 = .ok (.ladd, 1) := by decide +kernel
theorem dX1_multiply_456 : decode cX1_multiply 456 = .ok (.lload 21, 2) := by decide +kernel
theorem dX1_multiply_458 : decode cX1_multiply 458 = .ok (.lload 59, 2) := by decide +kernel
theorem dX1_multiply_460 : decode cX1_multiply 460 = .ok (.lmul, 1) := by decide +kernel
theorem dX1_multiply_461 : decode cX1_multiply 461 = .ok (.ladd, 1) := by decide +kernel
theorem dX1_multiply_462 : decode cX1_multiply 462 = .ok (.lastore, 1) := by decide +kernel
theorem dX1_multiply_463 : decode cX1_multiply 463 = .ok (.aload_n 2, 1) := by decide +kernel
theorem dX1_multiply_464 : decode cX1_multiply 464 = .ok (.iconst 4, 1) := by decide +kernel
theorem dX1_multiply_465 : decode cX1_multiply 465 = .ok (.lload_n 3, 1) := by decide +kernel
theorem dX1_multiply_466 : decode cX1_multiply 466 = .ok (.lload 31, 2) := by decide +kernel
theorem dX1_multiply_468 : decode cX1_multiply 468 = .ok (.lmul, 1) := by decide +kernel
theorem dX1_multiply_469 : decode cX1_multiply 469 = .ok (.lload 43, 2) := by decide +kernel
theorem dX1_multiply_471 : decode cX1_multiply 471 = .ok (.lload 29, 2) := by decide +kernel
theorem dX1_multiply_473 : decode cX1_multiply 473 = .ok (.lmul, 1) := by decide +kernel
theorem dX1_multiply_474 : decode cX1_multiply 474 = .ok (.ladd, 1) := by decide +kernel
theorem dX1_multiply_475 : decode cX1_multiply 475 = .ok (.lload 7, 2) := by decide +kernel
theorem dX1_multiply_477 : decode cX1_multiply 477 = .ok (.lload 27, 2) := by decide +kernel
theorem dX1_multiply_479 : decode cX1_multiply 479 = .ok (.lmul, 1) := by decide +kernel
theorem dX1_multiply_480 : decode cX1_multiply 480 = .ok (.ladd, 1) := by decide +kernel
theorem dX1_multiply_481 : decode cX1_multiply 481 = .ok (.lload 45, 2) := by decide +kernel
theorem dX1_multiply_483 : decode cX1_multiply 483 = .ok (.lload 25, 2) := by decide +kernel
theorem dX1_multiply_485 : decode cX1_multiply 485 = .ok (.lmul, 1) := by decide +kernel
theorem dX1_multiply_486 : decode cX1_multiply 486 = .ok (.ladd, 1) := by decide +kernel
theorem dX1_multiply_487 : decode cX1_multiply 487 = .ok (.lload 11, 2) := by decide +kernel
theorem dX1_multiply_489 : decode cX1_multiply 489 = .ok (.lload 23, 2) := by decide +kernel
theorem dX1_multiply_491 : decode cX1_multiply 491 = .ok (.lmul, 1) := by decide +kernel
theorem dX1_multiply_492 : decode cX1_multiply 492 = .ok (.ladd, 1) := by decide +kernel
theorem dX1_multiply_493 : decode cX1_multiply 493 = .ok (.lload 47, 2) := by decide +kernel
theorem dX1_multiply_495 : decode cX1_multiply 495 = .ok (.lload 69, 2) := by decide +kernel
theorem dX1_multiply_497 : decode cX1_multiply 497 = .ok (.lmul, 1) := by decide +kernel
theorem dX1_multiply_498 : decode cX1_multiply 498 = .ok (.ladd, 1) := by decide +kernel
theorem dX1_multiply_499 : decode cX1_multiply 499 = .ok (.lload 15, 2) := by decide +kernel
theorem dX1_multiply_501 : decode cX1_multiply 501 = .ok (.lload 67, 2) := by decide +kernel
theorem dX1_multiply_503 : decode cX1_multiply 503 = .ok (.lmul, 1) := by decide +kernel
theorem dX1_multiply_504 : decode cX1_multiply 504 = .ok (.ladd, 1) := by decide +kernel
theorem dX1_multiply_505 : decode cX1_multiply 505 = .ok (.lload 49, 2) := by decide +kernel
theorem dX1_multiply_507 : decode cX1_multiply 507 = .ok (.lload 65, 2) := by decide +kernel
theorem dX1_multiply_509 : decode cX1_multiply 509 = .ok (.lmul, 1) := by decide +kernel
theorem dX1_multiply_510 : decode cX1_multiply 510 = .ok (.ladd, 1) := by decide +kernel
theorem dX1_multiply_511 : decode cX1_multiply 511 = .ok (.lload 19, 2) := by decide +kernel
theorem dX1_multiply_513 : decode cX1_multiply 513 = .ok (.lload 63, 2) := by decide +kernel
theorem dX1_multiply_515 : decode cX1_multiply 515 = .ok (.lmul, 1) := by decide +kernel
theorem dX1_multiply_516 : decode cX1_multiply 516 = .ok (.ladd, 1) := by decide +kernel
theorem dX1_multiply_517 : decode cX1_multiply 517 = .ok (.lload 51, 2) := by decide +kernel
theorem dX1_multiply_519 : decode cX1_multiply 519 = .ok (.lload 61, 2) := by decide +kernel
theorem dX1_multiply_521 : decode cX1_multiply 521 = .ok (.lmul, 1) := by decide +kernel
theorem dX1_multiply_522 : decode cX1_multiply 522 = .ok (.ladd, 1) := by decide +kernel
theorem dX1_multiply_523 : decode cX1_multiply 523 = .ok (.lastore, 1) := by decide +kernel
theorem dX1_multiply_524 : decode cX1_multiply 524 = .ok (.aload_n 2, 1) := by decide +kernel
theorem dX1_multiply_525 : decode cX1_multiply 525 = .ok (.iconst 5, 1) := by decide +kernel
theorem dX1_multiply_526 : decode cX1_multiply 526 = .ok (.lload_n 3, 1) := by decide +kernel
theorem dX1_multiply_527 : decode cX1_multiply 527 = .ok (.lload 33, 2) := by decide +kernel
theorem dX1_multiply_529 : decode cX1_multiply 529 = .ok (.lmul, 1) := by decide +kernel
theorem dX1_multiply_530 : decode cX1_multiply 530 = .ok (.lload 5, 2) := by decide +kernel
theorem dX1_multiply_532 : decode cX1_multiply 532 = .ok (.lload 31, 2) := by decide +kernel
theorem dX1_multiply_534 : decode cX1_multiply 534 = .ok (.lmul, 1) := by decide +kernel
theorem dX1_multiply_535 : decode cX1_multiply 535 = .ok (.ladd, 1) := by decide +kernel
theorem dX1_multiply_536 : decode cX1_multiply 536 = .ok (.lload 7, 2) := by decide +kernel
theorem dX1_multiply_538 : decode cX1_multiply 538 = .ok (.lload 29, 2) := by decide +kernel
theorem dX1_multiply_540 : decode cX1_multiply 540 = .ok (.lmul, 1) := by decide +kernel
theorem dX1_multiply_541 : decode cX1_multiply 541 = .ok (.ladd, 1) := by decide +kernel
theorem dX1_multiply_542 : decode cX1_multiply 542 = .ok (.lload 9, 2) := by decide +kernel
theorem dX1_multiply_544 : decode cX1_multiply 544 = .ok (.lload 27, 2) := by decide +kernel
theorem dX1_multiply_546 : decode cX1_multiply 546 = .ok (.lmul, 1) := by decide +kernel
theorem dX1_multiply_547 : decode cX1_multiply 547 = .ok (.ladd, 1) := by decide +kernel
theorem dX1_multiply_548 : decode cX1_multiply 548 = .ok (.lload 11, 2) := by decide +kernel
theorem dX1_multiply_550 : decode cX1_multiply 550 = .ok (.lload 25, 2) := by decide +kernel
theorem dX1_multiply_552 : decode cX1_multiply 552 = .ok (.lmul, 1) := by decide +kernel
theorem dX1_multiply_553 : decode cX1_multiply 553 = .ok (.ladd, 1) := by decide +kernel
theorem dX1_multiply_554 : decode cX1_multiply 554 = .ok (.lload 13, 2) := by decide +kernel
theorem dX1_multiply_556 : decode cX1_multiply 556 = .ok (.lload 23, 2) := by decide +kernel
theorem dX1_multiply_558 : decode cX1_multiply 558 = .ok (.lmul, 1) := by decide +kernel
theorem dX1_multiply_559 : decode cX1_multiply 559 = .ok (.ladd, 1) := by decide +kernel
theorem dX1_multiply_560 : decode cX1_multiply 560 = .ok (.lload 15, 2) := by decide +kernel
theorem dX1_multiply_562 : decode cX1_multiply 562 = .ok (.lload 69, 2) := by decide +kernel
theorem dX1_multiply_564 : decode cX1_multiply 564 = .ok (.lmul, 1) := by decide +kernel
theorem dX1_multiply_565 : decode cX1_multiply 565 = .ok (.ladd, 1) := by decide +kernel
theorem dX1_multiply_566 : decode cX1_multiply 566 = .ok (.lload 17, 2) := by decide +kernel
theorem dX1_multiply_568 : decode cX1_multiply 568 = .ok (.lload 67, 2) := by decide +kernel
theorem dX1_multiply_570 : decode cX1_multiply 570 = .ok (.lmul, 1) := by decide +kernel
theorem dX1_multiply_571 : decode cX1_multiply 571 = .ok (.ladd, 1) := by decide +kernel
theorem dX1_multiply_572 : decode cX1_multiply 572 = .ok (.lload 19, 2) := by decide +kernel
theorem dX1_multiply_574 : decode cX1_multiply 574 = .ok (.lload 65, 2) := by decide +kernel
theorem dX1_multiply_576 : decode cX1_multiply 576 = .ok (.lmul, 1) := by decide +kernel
theorem dX1_multiply_577 : decode cX1_multiply 577 = .ok (.ladd, 1) := by decide +kernel
theorem dX1_multiply_578 : decode cX1_multiply 578 = .ok (.lload 21, 2) := by decide +kernel
theorem dX1_multiply_580 : decode cX1_multiply 580 = .ok (.lload 63, 2) := by decide +kernel
theorem dX1_multiply_582 : decode cX1_multiply 582 = .ok (.lmul, 1) := by decide +kernel
theorem dX1_multiply_583 : decode cX1_multiply 583 = .ok (.ladd, 1) := by decide +kernel
theorem dX1_multiply_584 : decode cX1_multiply 584 = .ok (.lastore, 1) := by decide +kernel
theorem dX1_multiply_585 : decode cX1_multiply 585 = .ok (.aload_n 2, 1) := by decide +kernel
theorem dX1_multiply_586 : decode cX1_multiply 586 = .ok (.bipush 6, 2) := by decide +kernel
theorem dX1_multiply_588 : decode cX1_multiply 588 = .ok (.lload_n 3, 1) := by decide +kernel
theorem dX1_multiply_589 : decode cX1_multiply 589 = .ok (.lload 35, 2) := by decide +kernel
theorem dX1_multiply_591 : decode cX1_multiply 591 = .ok (.lmul, 1) := by decide +kernel
theorem dX1_multiply_592 : decode cX1_multiply 592 = .ok (.lload 43, 2) := by decide +kernel
theorem dX1_multiply_594 : decode cX1_multiply 594 = .ok (.lload 33, 2) := by decide +kernel
theorem dX1_multiply_596 : decode cX1_multiply 596 = .ok (.lmul, 1) := by decide +kernel
theorem dX1_multiply_597 : decode cX1_multiply 597 = .ok (.ladd, 1) := by decide +kernel
theorem dX1_multiply_598 : decode cX1_multiply 598 = .ok (.lload 7, 2) := by decide +kernel
theorem dX1_multiply_600 : decode cX1_multiply 600 = .ok (.lload 31, 2) := by decide +kernel
theorem dX1_multiply_602 : decode cX1_multiply 602 = .ok (.lmul, 1) := by decide +kernel
theorem dX1_multiply_603 : decode cX1_multiply 603 = .ok (.ladd, 1) := by decide +kernel
theorem dX1_multiply_604 : decode cX1_multiply 604 = .ok (.lload 45, 2) := by decide +kernel
theorem dX1_multiply_606 : decode cX1_multiply 606 = .ok (.lload 29, 2) := by decide +kernel
theorem dX1_multiply_608 : decode cX1_multiply 608 = .ok (.lmul, 1) := by decide +kernel
theorem dX1_multiply_609 : decode cX1_multiply 609 = .ok (.ladd, 1) := by decide +kernel
theorem dX1_multiply_610 : decode cX1_multiply 610 = .ok (.lload 11, 2) := by decide +kernel
theorem dX1_multiply_612 : decode cX1_multiply 612 = .ok (.lload 27, 2) := by decide +kernel
theorem dX1_multiply_614 : decode cX1_multiply 614 = .ok (.lmul, 1) := by decide +kernel
theorem dX1_multiply_615 : decode cX1_multiply 615 = .ok (.ladd, 1) := by decide +kernel
theorem dX1_multiply_616 : decode cX1_multiply 616 = .ok (.lload 47, 2) := by decide +kernel
theorem dX1_multiply_618 : decode cX1_multiply 618 = .ok (.lload 25, 2) := by decide +kernel
theorem dX1_multiply_620 : decode cX1_multiply 620 = .ok (.lmul, 1) := by decide +kernel
theorem dX1_multiply_621 : decode cX1_multiply 621 = .ok (.ladd, 1) := by decide +kernel
theorem dX1_multiply_622 : decode cX1_multiply 622 = .ok (.lload 15, 2) := by decide +kernel
theorem dX1_multiply_624 : decode cX1_multiply 624 = .ok (.lload 23, 2) := by decide +kernel
theorem dX1_multiply_626 : decode cX1_multiply 626 = .ok (.lmul, 1) := by decide +kernel
theorem dX1_multiply_627 : decode cX1_multiply 627 = .ok (.ladd, 1) := by decide +kernel
theorem dX1_multiply_628 : decode cX1_multiply 628 = .ok (.lload 49, 2) := by decide +kernel
theorem dX1_multiply_630 : decode cX1_multiply 630 = .ok (.lload 69, 2) := by decide +kernel
theorem dX1_multiply_632 : decode cX1_multiply 632 = .ok (.lmul, 1) := by decide +kernel
theorem dX1_multiply_633 : decode cX1_multiply 633 = .ok (.ladd, 1) := by decide +kernel
theorem dX1_multiply_634 : decode cX1_multiply 634 = .ok (.lload 19, 2) := by decide +kernel
theorem dX1_multiply_636 : decode cX1_multiply 636 = .ok (.lload 67, 2) := by decide +kernel
theorem dX1_multiply_638 : decode cX1_multiply 638 = .ok (.lmul, 1) := by decide +kernel
theorem dX1_multiply_639 : decode cX1_multiply 639 = .ok (.ladd, 1) := by decide +kernel
theorem dX1_multiply_640 : decode cX1_multiply 640 = .ok (.lload 51, 2) := by decide +kernel
theorem dX1_multiply_642 : decode cX1_multiply 642 = .ok (.lload 65, 2) := by decide +kernel
theorem dX1_multiply_644 : decode cX1_multiply 644 = .ok (.lmul, 1) := by decide +kernel
theorem dX1_multiply_645 : decode cX1_multiply 645 = .ok (.ladd, 1) := by decide +kernel
theorem dX1_multiply_646 : decode cX1_multiply 646 = .ok (.lastore, 1) := by decide +kernel
theorem dX1_multiply_647 : decode cX1_multiply 647 = .ok (.aload_n 2, 1) := by decide +kernel
theorem dX1_multiply_648 : decode cX1_multiply 648 = .ok (.bipush 7, 2) := by decide +kernel
theorem dX1_multiply_650 : decode cX1_multiply 650 = .ok (.lload_n 3, 1) := by decide +kernel
theorem dX1_multiply_651 : decode cX1_multiply 651 = .ok (.lload 37, 2) := by decide +kernel
theorem dX1_multiply_653 : decode cX1_multiply 653 = .ok (.lmul, 1) := by decide +kernel
theorem dX1_multiply_654 : decode cX1_multiply 654 = .ok (.lload 5, 2) := by decide +kernel
theorem dX1_multiply_656 : decode cX1_multiply 656 = .ok (.lload 35, 2) := by decide +kernel
theorem dX1_multiply_658 : decode cX1_multiply 658 = .ok (.lmul, 1) := by decide +kernel
theorem dX1_multiply_659 : decode cX1_multiply 659 = .ok (.ladd, 1) := by decide +kernel
theorem dX1_multiply_660 : decode cX1_multiply 660 = .ok (.lload 7, 2) := by decide +kernel
theorem dX1_multiply_662 : decode cX1_multiply 662 = .ok (.lload 33, 2) := by decide +kernel
theorem dX1_multiply_664 : decode cX1_multiply 664 = .ok (.lmul, 1) := by decide +kernel
theorem dX1_multiply_665 : decode cX1_multiply 665 = .ok (.ladd, 1) := by decide +kernel
theorem dX1_multiply_666 : decode cX1_multiply 666 = .ok (.lload 9, 2) := by decide +kernel
theorem dX1_multiply_668 : decode cX1_multiply 668 = .ok (.lload 31, 2) := by decide +kernel
theorem dX1_multiply_670 : decode cX1_multiply 670 = .ok (.lmul, 1) := by decide +kernel
theorem dX1_multiply_671 : decode cX1_multiply 671 = .ok (.ladd, 1) := by decide +kernel
theorem dX1_multiply_672 : decode cX1_multiply 672 = .ok (.lload 11, 2) := by decide +kernel
theorem dX1_multiply_674 : decode cX1_multiply 674 = .ok (.lload 29, 2) := by decide +kernel
theorem dX1_multiply_676 : decode cX1_multiply 676 = .ok (.lmul, 1) := by decide +kernel
theorem dX1_multiply_677 : decode cX1_multiply 677 = .ok (.ladd, 1) := by decide +kernel
theorem dX1_multiply_678 : decode cX1_multiply 678 = .ok (.lload 13, 2) := by decide +kernel
theorem dX1_multiply_680 : decode cX1_multiply 680 = .ok (.lload 27, 2) := by decide +kernel
theorem dX1_multiply_682 : decode cX1_multiply 682 = .ok (.lmul, 1) := by decide +kernel
theorem dX1_multiply_683 : decode cX1_multiply 683 = .ok (.ladd, 1) := by decide +kernel
theorem dX1_multiply_684 : decode cX1_multiply 684 = .ok (.lload 15, 2) := by decide +kernel
theorem dX1_multiply_686 : decode cX1_multiply 686 = .ok (.lload 25, 2) := by decide +kernel
theorem dX1_multiply_688 : decode cX1_multiply 688 = .ok (.lmul, 1) := by decide +kernel
theorem dX1_multiply_689 : decode cX1_multiply 689 = .ok (.ladd, 1) := by decide +kernel
theorem dX1_multiply_690 : decode cX1_multiply 690 = .ok (.lload 17, 2) := by decide +kernel
theorem dX1_multiply_692 : decode cX1_multiply 692 = .ok (.lload 23, 2) := by decide +kernel
theorem dX1_multiply_694 : decode cX1_multiply 694 = .ok (.lmul, 1) := by decide +kernel
theorem dX1_multiply_695 : decode cX1_multiply 695 = .ok (.ladd, 1) := by decide +kernel
theorem dX1_multiply_696 : decode cX1_multiply 696 = .ok (.lload 19, 2) := by decide +kernel
theorem dX1_multiply_698 : decode cX1_multiply 698 = .ok (.lload 69, 2) := by decide +kernel
theorem dX1_multiply_700 : decode cX1_multiply 700 = .ok (.lmul, 1) := by decide +kernel
theorem dX1_multiply_701 : decode cX1_multiply 701 = .ok (.ladd, 1) := by decide +kernel
theorem dX1_multiply_702 : decode cX1_multiply 702 = .ok (.lload 21, 2) := by decide +kernel
theorem dX1_multiply_704 : decode cX1_multiply 704 = .ok (.lload 67, 2) := by decide +kernel
theorem dX1_multiply_706 : decode cX1_multiply 706 = .ok (.lmul, 1) := by decide +kernel
theorem dX1_multiply_707 : decode cX1_multiply 707 = .ok (.ladd, 1) := by decide +kernel
theorem dX1_multiply_708 : decode cX1_multiply 708 = .ok (.lastore, 1) := by decide +kernel
theorem dX1_multiply_709 : decode cX1_multiply 709 = .ok (.aload_n 2, 1) := by decide +kernel
theorem dX1_multiply_710 : decode cX1_multiply 710 = .ok (.bipush 8, 2) := by decide +kernel
theorem dX1_multiply_712 : decode cX1_multiply 712 = .ok (.lload_n 3, 1) := by decide +kernel
theorem dX1_multiply_713 : decode cX1_multiply 713 = .ok (.lload 39, 2) := by decide +kernel
theorem dX1_multiply_715 : decode cX1_multiply 715 = .ok (.lmul, 1) := by decide +kernel
theorem dX1_multiply_716 : decode cX1_multiply 716 = .ok (.lload 43, 2) := by decide +kernel
theorem dX1_multiply_718 : decode cX1_multiply 718 = .ok (.lload 37, 2) := by decide +kernel
theorem dX1_multiply_720 : decode cX1_multiply 720 = .ok (.lmul, 1) := by decide +kernel
theorem dX1_multiply_721 : decode cX1_multiply 721 = .ok (.ladd, 1) := by decide +kernel
theorem dX1_multiply_722 : decode cX1_multiply 722 = .ok (.lload 7, 2) := by decide +kernel
theorem dX1_multiply_724 : decode cX1_multiply 724 = .ok (.lload 35, 2) := by decide +kernel
theorem dX1_multiply_726 : decode cX1_multiply 726 = .ok (.lmul, 1) := by decide +kernel
theorem dX1_multiply_727 : decode cX1_multiply 727 = .ok (.ladd, 1) := by decide +kernel
theorem dX1_multiply_728 : decode cX1_multiply 728 = .ok (.lload 45, 2) := by decide +kernel
theorem dX1_multiply_730 : decode cX1_multiply 730 = .ok (.lload 33, 2) := by decide +kernel
theorem dX1_multiply_732 : decode cX1_multiply 732 = .ok (.lmul, 1) := by decide +kernel
theorem dX1_multiply_733 : decode cX1_multiply 733 = .ok (.ladd, 1) := by decide +kernel
theorem dX1_multiply_734 : decode cX1_multiply 734 = .ok (.lload 11, 2) := by decide +kernel
theorem dX1_multiply_736 : decode cX1_multiply 736 = .ok (.lload 31, 2) := by decide +kernel
theorem dX1_multiply_738 : decode cX1_multiply 738 = .ok (.lmul, 1) := by decide +kernel
theorem dX1_multiply_739 : decode cX1_multiply 739 = .ok (.ladd, 1) := by decide +kernel
theorem dX1_multiply_740 : decode cX1_multiply 740 = .ok (.lload 47, 2) := by decide +kernel
theorem dX1_multiply_742 : decode cX1_multiply 742 = .ok (.lload 29, 2) := by decide +kernel
theorem dX1_multiply_744 : decode cX1_multiply 744 = .ok (.lmul, 1) := by decide +kernel
theorem dX1_multiply_745 : decode cX1_multiply 745 = .ok (.ladd, 1) := by decide +kernel
theorem dX1_multiply_746 : decode cX1_multiply 746 = .ok (.lload 15, 2) := by decide +kernel
theorem dX1_multiply_748 : decode cX1_multiply 748 = .ok (.lload 27, 2) := by decide +kernel
theorem dX1_multiply_750 : decode cX1_multiply 750 = .ok (.lmul, 1) := by decide +kernel
theorem dX1_multiply_751 : decode cX1_multiply 751 = .ok (.ladd, 1) := by decide +kernel
theorem dX1_multiply_752 : decode cX1_multiply 752 = .ok (.lload 49, 2) := by decide +kernel
theorem dX1_multiply_754 : decode cX1_multiply 754 = .ok (.lload 25, 2) := by decide +kernel
theorem dX1_multiply_756 : decode cX1_multiply 756 = .ok (.lmul, 1) := by decide +kernel
theorem dX1_multiply_757 : decode cX1_multiply 757 = .ok (.ladd, 1) := by decide +kernel
theorem dX1_multiply_758 : decode cX1_multiply 758 = .ok (.lload 19, 2) := by decide +kernel
theorem dX1_multiply_760 : decode cX1_multiply 760 = .ok (.lload 23, 2) := by decide +kernel
theorem dX1_multiply_762 : decode cX1_multiply 762 = .ok (.lmul, 1) := by decide +kernel
theorem dX1_multiply_763 : decode cX1_multiply 763 = .ok (.ladd, 1) := by decide +kernel
theorem dX1_multiply_764 : decode cX1_multiply 764 = .ok (.lload 51, 2) := by decide +kernel
theorem dX1_multiply_766 : decode cX1_multiply 766 = .ok (.lload 69, 2) := by decide +kernel
theorem dX1_multiply_768 : decode cX1_multiply 768 = .ok (.lmul, 1) := by decide +kernel
theorem dX1_multiply_769 : decode cX1_multiply 769 = .ok (.ladd, 1) := by decide +kernel
theorem dX1_multiply_770 : decode cX1_multiply 770 = .ok (.lastore, 1) := by decide +kernel
theorem dX1_multiply_771 : decode cX1_multiply 771 = .ok (.aload_n 2, 1) := by decide +kernel
theorem dX1_multiply_772 : decode cX1_multiply 772 = .ok (.bipush 9, 2) := by decide +kernel
theorem dX1_multiply_774 : decode cX1_multiply 774 = .ok (.lload_n 3, 1) := by decide +kernel
theorem dX1_multiply_775 : decode cX1_multiply 775 = .ok (.lload 41, 2) := by decide +kernel
theorem dX1_multiply_777 : decode cX1_multiply 777 = .ok (.lmul, 1) := by decide +kernel
theorem dX1_multiply_778 : decode cX1_multiply 778 = .ok (.lload 5, 2) := by decide +kernel
theorem dX1_multiply_780 : decode cX1_multiply 780 = .ok (.lload 39, 2) := by decide +kernel
theorem dX1_multiply_782 : decode cX1_multiply 782 = .ok (.lmul, 1) := by decide +kernel
theorem dX1_multiply_783 : decode cX1_multiply 783 = .ok (.ladd, 1) := by decide +kernel
theorem dX1_multiply_784 : decode cX1_multiply 784 = .ok (.lload 7, 2) := by decide +kernel
theorem dX1_multiply_786 : decode cX1_multiply 786 = .ok (.lload 37, 2) := by decide +kernel
theorem dX1_multiply_788 : decode cX1_multiply 788 = .ok (.lmul, 1) := by decide +kernel
theorem dX1_multiply_789 : decode cX1_multiply 789 = .ok (.ladd, 1) := by decide +kernel
theorem dX1_multiply_790 : decode cX1_multiply 790 = .ok (.lload 9, 2) := by decide +kernel
theorem dX1_multiply_792 : decode cX1_multiply 792 = .ok (.lload 35, 2) := by decide +kernel
theorem dX1_multiply_794 : decode cX1_multiply 794 = .ok (.lmul, 1) := by decide +kernel
theorem dX1_multiply_795 : decode cX1_multiply 795 = .ok (.ladd, 1) := by decide +kernel
theorem dX1_multiply_796 : decode cX1_multiply 796 = .ok (.lload 11, 2) := by decide +kernel
theorem dX1_multiply_798 : decode cX1_multiply 798 = .ok (.lload 33, 2) := by decide +kernel
theorem dX1_multiply_800 : decode cX1_multiply 800 = .ok (.lmul, 1) := by decide +kernel
theorem dX1_multiply_801 : decode cX1_multiply 801 = .ok (.ladd, 1) := by decide +kernel
theorem dX1_multiply_802 : decode cX1_multiply 802 = .ok (.lload 13, 2) := by decide +kernel
theorem dX1_multiply_804 : decode cX1_multiply 804 = .ok (.lload 31, 2) := by decide +kernel
theorem dX1_multiply_806 : decode cX1_multiply 806 = .ok (.lmul, 1) := by decide +kernel
theorem dX1_multiply_807 : decode cX1_multiply 807 = .ok (.ladd, 1) := by decide +kernel
theorem dX1_multiply_808 : decode cX1_multiply 808 = .ok (.lload 15, 2) := by decide +kernel
theorem dX1_multiply_810 : decode cX1_multiply 810 = .ok (.lload 29, 2) := by decide +kernel
theorem dX1_multiply_812 : decode cX1_multiply 812 = .ok (.lmul, 1) := by decide +kernel
theorem dX1_multiply_813 : decode cX1_multiply 813 = .ok (.ladd, 1) := by decide +kernel
theorem dX1_multiply_814 : decode cX1_multiply 814 = .ok (.lload 17, 2) := by decide +kernel
theorem dX1_multiply_816 : decode cX1_multiply 816 = .ok (.lload 27, 2) := by decide +kernel
theorem dX1_multiply_818 : decode cX1_multiply 818 = .ok (.lmul, 1) := by decide +kernel
theorem dX1_multiply_819 : decode cX1_multiply 819 = .ok (.ladd, 1) := by decide +kernel
theorem dX1_multiply_820 : decode cX1_multiply 820 = .ok (.lload 19, 2) := by decide +kernel
theorem dX1_multiply_822 : decode cX1_multiply 822 = .ok (.lload 25, 2) := by decide +kernel
theorem dX1_multiply_824 : decode cX1_multiply 824 = .ok (.lmul, 1) := by decide +kernel
theorem dX1_multiply_825 : decode cX1_multiply 825 = .ok (.ladd, 1) := by decide +kernel
theorem dX1_multiply_826 : decode cX1_multiply 826 = .ok (.lload 21, 2) := by decide +kernel
theorem dX1_multiply_828 : decode cX1_multiply 828 = .ok (.lload 23, 2) := by decide +kernel
theorem dX1_multiply_830 : decode cX1_multiply 830 = .ok (.lmul, 1) := by decide +kernel
theorem dX1_multiply_831 : decode cX1_multiply 831 = .ok (.ladd, 1) := by decide +kernel
theorem dX1_multiply_832 : decode cX1_multiply 832 = .ok (.lastore, 1) := by decide +kernel
theorem dX1_multiply_833 : decode cX1_multiply 833 = .ok (.aload_n 2, 1) := by decide +kernel
theorem dX1_multiply_834 : decode cX1_multiply 834 = .ok (.invokestatic 90, 3) := by decide +kernel
theorem dX1_multiply_837 : decode cX1_multiply 837 = .ok (.return_, 1) := by decide +kernel
theorem dX1_width_0 : decode cX1_width 0 = .ok (.bipush 26, 2) := by decide +kernel
theorem dX1_width_2 : decode cX1_width 2 = .ok (.iload_n 0, 1) := by decide +kernel
theorem dX1_width_3 : decode cX1_width 3 = .ok (.iconst 1, 1) := by decide +kernel
theorem dX1_width_4 : decode cX1_width 4 = .ok (.iand, 1) := by decide +kernel
theorem dX1_width_5 : decode cX1_width 5 = .ok (.isub, 1) := by decide +kernel
theorem dX1_width_6 : decode cX1_width 6 = .ok (.ireturn, 1) := by decide +kernel
theorem dX1_carry_0 : decode cX1_carry 0 = .ok (.lconst 0, 1) := by decide +kernel
theorem dX1_carry_1 : decode cX1_carry 1 = .ok (.lstore_n 1, 1) := by decide +kernel
theorem dX1_carry_2 : decode cX1_carry 2 = .ok (.iconst 0, 1) := by decide +kernel
theorem dX1_carry_3 : decode cX1_carry 3 = .ok (.istore_n 3, 1) := by decide +kernel
theorem dX1_carry_4 : decode cX1_carry 4 = .ok (.iload_n 3, 1) := by decide +kernel
theorem dX1_carry_5 : decode cX1_carry 5 = .ok (.bipush 10, 2) := by decide +kernel
theorem dX1_carry_7 : decode cX1_carry 7 = .ok (.if_icmp .ge 41, 3) := by decide +kernel
theorem dX1_carry_10 : decode cX1_carry 10 = .ok (.iload_n 3, 1) := by decide +kernel
theorem dX1_carry_11 : decode cX1_carry 11 = .ok (.invokestatic 98, 3) := by decide +kernel
theorem dX1_carry_14 : decode cX1_carry 14 = .ok (.istore 4, 2) := by decide +kernel
theorem dX1_carry_16 : decode cX1_carry 16 = .ok (.aload_n 0, 1) := by decide +kernel
theorem dX1_carry_17 : decode cX1_carry 17 = .ok (.iload_n 3, 1) := by decide +kernel
theorem dX1_carry_18 : decode cX1_carry 18 = .ok (.laload, 1) := by decide +kernel
theorem dX1_carry_19 : decode cX1_carry 19 = .ok (.lload_n 1, 1) := by decide +kernel
theorem dX1_carry_20 : decode cX1_carry 20 = .ok (.ladd, 1) := by decide +kernel
theorem dX1_carry_21 : decode cX1_carry 21 = .ok (.lstore 5, 2) := by decide +kernel
theorem dX1_carry_23 : decode cX1_carry 23 = .ok (.lload 5, 2) := by decide +kernel
theorem dX1_carry_25 : decode cX1_carry 25 = .ok (.iload 4, 2) := by decide +kernel
theorem dX1_carry_27 : decode cX1_carry 27 = .ok (.lshr, 1) := by decide +kernel
theorem dX1_carry_28 : decode cX1_carry 28 = .ok (.lstore_n 1, 1) := by decide +kernel
theorem dX1_carry_29 : decode cX1_carry 29 = .ok (.aload_n 0, 1) := by decide +kernel
theorem dX1_carry_30 : decode cX1_carry 30 = .ok (.iload_n 3, 1) := by decide +kernel
theorem dX1_carry_31 : decode cX1_carry 31 = .ok (.lload 5, 2) := by decide +kernel
theorem dX1_carry_33 : decode cX1_carry 33 = .ok (.iconst 1, 1) := by decide +kernel
theorem dX1_carry_34 : decode cX1_carry 34 = .ok (.iload 4, 2) := by decide +kernel
theorem dX1_carry_36 : decode cX1_carry 36 = .ok (.ishl, 1) := by decide +kernel
theorem dX1_carry_37 : decode cX1_carry 37 = .ok (.iconst 1, 1) := by decide +kernel
theorem dX1_carry_38 : decode cX1_carry 38 = .ok (.isub, 1) := by decide +kernel
theorem dX1_carry_39 : decode cX1_carry 39 = .ok (.i2l, 1) := by decide +kernel
theorem dX1_carry_40 : decode cX1_carry 40 = .ok (.land, 1) := by decide +kernel
theorem dX1_carry_41 : decode cX1_carry 41 = .ok (.lastore, 1) := by decide +kernel
theorem dX1_carry_42 : decode cX1_carry 42 = .ok (.iinc 3 1, 3) := by decide +kernel
theorem dX1_carry_45 : decode cX1_carry 45 = .ok (.goto (-41), 3) := by decide +kernel
theorem dX1_carry_48 : decode cX1_carry 48 = .ok (.aload_n 0, 1) := by decide +kernel
theorem dX1_carry_49 : decode cX1_carry 49 = .ok (.iconst 0, 1) := by decide +kernel
theorem dX1_carry_50 : decode cX1_carry 50 = .ok (.dup2, 1) := by decide +kernel
theorem dX1_carry_51 : decode cX1_carry 51 = .ok (.laload, 1) := by decide +kernel
theorem dX1_carry_52 : decode cX1_carry 52 = .ok (.ldc2_w 96, 3) := by decide +kernel
theorem dX1_carry_55 : decode cX1_carry 55 = .ok (.lload_n 1, 1) := by decide +kernel
theorem dX1_carry_56 : decode cX1_carry 56 = .ok (.lmul, 1) := by decide +kernel
theorem dX1_carry_57 : decode cX1_carry 57 = .ok (.ladd, 1) := by decide +kernel
theorem dX1_carry_58 : decode cX1_carry 58 = .ok (.lastore, 1) := by decide +kernel
theorem dX1_carry_59 : decode cX1_carry 59 = .ok (.aload_n 0, 1) := by decide +kernel
theorem dX1_carry_60 : decode cX1_carry 60 = .ok (.iconst 1, 1) := by decide +kernel
theorem dX1_carry_61 : decode cX1_carry 61 = .ok (.dup2, 1) := by decide +kernel
theorem dX1_carry_62 : decode cX1_carry 62 = .ok (.laload, 1) := by decide +kernel
theorem dX1_carry_63 : decode cX1_carry 63 = .ok (.aload_n 0, 1) := by decide +kernel
theorem dX1_carry_64 : decode cX1_carry 64 = .ok (.iconst 0, 1) := by decide +kernel
theorem dX1_carry_65 : decode cX1_carry 65 = .ok (.laload, 1) := by decide +kernel
theorem dX1_carry_66 : decode cX1_carry 66 = .ok (.iconst 0, 1) := by decide +kernel
theorem dX1_carry_67 : decode cX1_carry 67 = .ok (.invokestatic 98, 3) := by decide +kernel
theorem dX1_carry_70 : decode cX1_carry 70 = .ok (.lshr, 1) := by decide +kernel
theorem dX1_carry_71 : decode cX1_carry 71 = .ok (.ladd, 1) := by decide +kernel
theorem dX1_carry_72 : decode cX1_carry 72 = .ok (.lastore, 1) := by decide +kernel
theorem dX1_carry_73 : decode cX1_carry 73 = .ok (.aload_n 0, 1) := by decide +kernel
theorem dX1_carry_74 : decode cX1_carry 74 = .ok (.iconst 0, 1) := by decide +kernel
theorem dX1_carry_75 : decode cX1_carry 75 = .ok (.dup2, 1) := by decide +kernel
theorem dX1_carry_76 : decode cX1_carry 76 = .ok (.laload, 1) := by decide +kernel
theorem dX1_carry_77 : decode cX1_carry 77 = .ok (.iconst 1, 1) := by decide +kernel
theorem dX1_carry_78 : decode cX1_carry 78 = .ok (.iconst 0, 1) := by decide +kernel
theorem dX1_carry_79 : decode cX1_carry 79 = .ok (.invokestatic 98, 3) := by decide +kernel
theorem dX1_carry_82 : decode cX1_carry 82 = .ok (.ishl, 1) := by decide +kernel
theorem dX1_carry_83 : decode cX1_carry 83 = .ok (.iconst 1, 1) := by decide +kernel
theorem dX1_carry_84 : decode cX1_carry 84 = .ok (.isub, 1) := by decide +kernel
theorem dX1_carry_85 : decode cX1_carry 85 = .ok (.i2l, 1) := by decide +kernel
theorem dX1_carry_86 : decode cX1_carry 86 = .ok (.land, 1) := by decide +kernel
theorem dX1_carry_87 : decode cX1_carry 87 = .ok (.lastore, 1) := by decide +kernel
theorem dX1_carry_88 : decode cX1_carry 88 = .ok (.return_, 1) := by decide +kernel
theorem dX1_unpack_0 : decode cX1_unpack 0 = .ok (.iconst 0, 1) := by decide +kernel
theorem dX1_unpack_1 : decode cX1_unpack 1 = .ok (.istore_n 2, 1) := by decide +kernel
theorem dX1_unpack_2 : decode cX1_unpack 2 = .ok (.iconst 0, 1) := by decide +kernel
theorem dX1_unpack_3 : decode cX1_unpack 3 = .ok (.istore_n 3, 1) := by decide +kernel
theorem dX1_unpack_4 : decode cX1_unpack 4 = .ok (.iload_n 3, 1) := by decide +kernel
theorem dX1_unpack_5 : decode cX1_unpack 5 = .ok (.bipush 10, 2) := by decide +kernel
theorem dX1_unpack_7 : decode cX1_unpack 7 = .ok (.if_icmp .ge 28, 3) := by decide +kernel
theorem dX1_unpack_10 : decode cX1_unpack 10 = .ok (.aload_n 1, 1) := by decide +kernel
theorem dX1_unpack_11 : decode cX1_unpack 11 = .ok (.iload_n 3, 1) := by decide +kernel
theorem dX1_unpack_12 : decode cX1_unpack 12 = .ok (.aload_n 0, 1) := by decide +kernel
theorem dX1_unpack_13 : decode cX1_unpack 13 = .ok (.iload_n 2, 1) := by decide +kernel
theorem dX1_unpack_14 : decode cX1_unpack 14 = .ok (.iload_n 3, 1) := by decide +kernel
theorem dX1_unpack_15 : decode cX1_unpack 15 = .ok (.invokestatic 98, 3) := by decide +kernel
theorem dX1_unpack_18 : decode cX1_unpack 18 = .ok (.invokestatic 102, 3) := by decide +kernel
theorem dX1_unpack_21 : decode cX1_unpack 21 = .ok (.lastore, 1) := by decide +kernel
theorem dX1_unpack_22 : decode cX1_unpack 22 = .ok (.iload_n 2, 1) := by decide +kernel
theorem dX1_unpack_23 : decode cX1_unpack 23 = .ok (.iload_n 3, 1) := by decide +kernel
theorem dX1_unpack_24 : decode cX1_unpack 24 = .ok (.invokestatic 98, 3) := by decide +kernel
theorem dX1_unpack_27 : decode cX1_unpack 27 = .ok (.iadd, 1) := by decide +kernel
theorem dX1_unpack_28 : decode cX1_unpack 28 = .ok (.istore_n 2, 1) := by decide +kernel
theorem dX1_unpack_29 : decode cX1_unpack 29 = .ok (.iinc 3 1, 3) := by decide +kernel
theorem dX1_unpack_32 : decode cX1_unpack 32 = .ok (.goto (-28), 3) := by decide +kernel
theorem dX1_unpack_35 : decode cX1_unpack 35 = .ok (.return_, 1) := by decide +kernel
theorem dX1_pack_0 : decode cX1_pack 0 = .ok (.aload_n 0, 1) := by decide +kernel
theorem dX1_pack_1 : decode cX1_pack 1 = .ok (.invokestatic 90, 3) := by decide +kernel
theorem dX1_pack_4 : decode cX1_pack 4 = .ok (.ldc2_w 96, 3) := by decide +kernel
theorem dX1_pack_7 : decode cX1_pack 7 = .ok (.lstore_n 2, 1) := by decide +kernel
theorem dX1_pack_8 : decode cX1_pack 8 = .ok (.iconst 0, 1) := by decide +kernel
theorem dX1_pack_9 : decode cX1_pack 9 = .ok (.istore 4, 2) := by decide +kernel
theorem dX1_pack_11 : decode cX1_pack 11 = .ok (.iload 4, 2) := by decide +kernel
theorem dX1_pack_13 : decode cX1_pack 13 = .ok (.bipush 10, 2) := by decide +kernel
theorem dX1_pack_15 : decode cX1_pack 15 = .ok (.if_icmp .ge 22, 3) := by decide +kernel
theorem dX1_pack_18 : decode cX1_pack 18 = .ok (.aload_n 0, 1) := by decide +kernel
theorem dX1_pack_19 : decode cX1_pack 19 = .ok (.iload 4, 2) := by decide +kernel
theorem dX1_pack_21 : decode cX1_pack 21 = .ok (.laload, 1) := by decide +kernel
theorem dX1_pack_22 : decode cX1_pack 22 = .ok (.lload_n 2, 1) := by decide +kernel
theorem dX1_pack_23 : decode cX1_pack 23 = .ok (.ladd, 1) := by decide +kernel
theorem dX1_pack_24 : decode cX1_pack 24 = .ok (.iload 4, 2) := by decide +kernel
theorem dX1_pack_26 : decode cX1_pack 26 = .ok (.invokestatic 98, 3) := by decide +kernel
theorem dX1_pack_29 : decode cX1_pack 29 = .ok (.lshr, 1) := by decide +kernel
theorem dX1_pack_30 : decode cX1_pack 30 = .ok (.lstore_n 2, 1) := by decide +kernel
theorem dX1_pack_31 : decode cX1_pack 31 = .ok (.iinc 4 1, 3) := by decide +kernel
theorem dX1_pack_34 : decode cX1_pack 34 = .ok (.goto (-23), 3) := by decide +kernel
theorem dX1_pack_37 : decode cX1_pack 37 = .ok (.lload_n 2, 1) := by decide +kernel
theorem dX1_pack_38 : decode cX1_pack 38 = .ok (.ldc2_w 96, 3) := by decide +kernel
theorem dX1_pack_41 : decode cX1_pack 41 = .ok (.lmul, 1) := by decide +kernel
theorem dX1_pack_42 : decode cX1_pack 42 = .ok (.lstore_n 2, 1) := by decide +kernel
theorem dX1_pack_43 : decode cX1_pack 43 = .ok (.lconst 0, 1) := by decide +kernel
theorem dX1_pack_44 : decode cX1_pack 44 = .ok (.lstore 4, 2) := by decide +kernel
theorem dX1_pack_46 : decode cX1_pack 46 = .ok (.iconst 0, 1) := by decide +kernel
theorem dX1_pack_47 : decode cX1_pack 47 = .ok (.istore 6, 2) := by decide +kernel
theorem dX1_pack_49 : decode cX1_pack 49 = .ok (.iconst 0, 1) := by decide +kernel
theorem dX1_pack_50 : decode cX1_pack 50 = .ok (.istore 7, 2) := by decide +kernel
theorem dX1_pack_52 : decode cX1_pack 52 = .ok (.iconst 0, 1) := by decide +kernel
theorem dX1_pack_53 : decode cX1_pack 53 = .ok (.istore 8, 2) := by decide +kernel
theorem dX1_pack_55 : decode cX1_pack 55 = .ok (.iload 8, 2) := by decide +kernel
theorem dX1_pack_57 : decode cX1_pack 57 = .ok (.bipush 32, 2) := by decide +kernel
theorem dX1_pack_59 : decode cX1_pack 59 = .ok (.if_icmp .ge 95, 3) := by decide +kernel
theorem dX1_pack_62 : decode cX1_pack 62 = .ok (.iload 6, 2) := by decide +kernel
theorem dX1_pack_64 : decode cX1_pack 64 = .ok (.bipush 8, 2) := by decide +kernel
theorem dX1_pack_66 : decode cX1_pack 66 = .ok (.if_icmp .ge 61, 3) := by decide +kernel
theorem dX1_pack_69 : decode cX1_pack 69 = .ok (.iload 7, 2) := by decide +kernel
theorem dX1_pack_71 : decode cX1_pack 71 = .ok (.bipush 10, 2) := by decide +kernel
theorem dX1_pack_73 : decode cX1_pack 73 = .ok (.if_icmp .ge 54, 3) := by decide +kernel
theorem dX1_pack_76 : decode cX1_pack 76 = .ok (.aload_n 0, 1) := by decide +kernel
theorem dX1_pack_77 : decode cX1_pack 77 = .ok (.iload 7, 2) := by decide +kernel
theorem dX1_pack_79 : decode cX1_pack 79 = .ok (.laload, 1) := by decide +kernel
theorem dX1_pack_80 : decode cX1_pack 80 = .ok (.lload_n 2, 1) := by decide +kernel
theorem dX1_pack_81 : decode cX1_pack 81 = .ok (.ladd, 1) := by decide +kernel
theorem dX1_pack_82 : decode cX1_pack 82 = .ok (.lstore 9, 2) := by decide +kernel
theorem dX1_pack_84 : decode cX1_pack 84 = .ok (.lload 9, 2) := by decide +kernel
theorem dX1_pack_86 : decode cX1_pack 86 = .ok (.iload 7, 2) := by decide +kernel
theorem dX1_pack_88 : decode cX1_pack 88 = .ok (.invokestatic 98, 3) := by decide +kernel
theorem dX1_pack_91 : decode cX1_pack 91 = .ok (.lshr, 1) := by decide +kernel
theorem dX1_pack_92 : decode cX1_pack 92 = .ok (.lstore_n 2, 1) := by decide +kernel
theorem dX1_pack_93 : decode cX1_pack 93 = .ok (.lload 4, 2) := by decide +kernel
theorem dX1_pack_95 : decode cX1_pack 95 = .ok (.lload 9, 2) := by decide +kernel
theorem dX1_pack_97 : decode cX1_pack 97 = .ok (.iconst 1, 1) := by decide +kernel
theorem dX1_pack_98 : decode cX1_pack 98 = .ok (.iload 7, 2) := by decide +kernel
theorem dX1_pack_100 : decode cX1_pack 100 = .ok (.invokestatic 98, 3) := by decide +kernel
theorem dX1_pack_103 : decode cX1_pack 103 = .ok (.ishl, 1) := by decide +kernel
theorem dX1_pack_104 : decode cX1_pack 104 = .ok (.iconst 1, 1) := by decide +kernel
theorem dX1_pack_105 : decode cX1_pack 105 = .ok (.isub, 1) := by decide +kernel
theorem dX1_pack_106 : decode cX1_pack 106 = .ok (.i2l, 1) := by decide +kernel
theorem dX1_pack_107 : decode cX1_pack 107 = .ok (.land, 1) := by decide +kernel
theorem dX1_pack_108 : decode cX1_pack 108 = .ok (.iload 6, 2) := by decide +kernel
theorem dX1_pack_110 : decode cX1_pack 110 = .ok (.lshl, 1) := by decide +kernel
theorem dX1_pack_111 : decode cX1_pack 111 = .ok (.lor, 1) := by decide +kernel
theorem dX1_pack_112 : decode cX1_pack 112 = .ok (.lstore 4, 2) := by decide +kernel
theorem dX1_pack_114 : decode cX1_pack 114 = .ok (.iload 6, 2) := by decide +kernel
theorem dX1_pack_116 : decode cX1_pack 116 = .ok (.iload 7, 2) := by decide +kernel
theorem dX1_pack_118 : decode cX1_pack 118 = .ok (.invokestatic 98, 3) := by decide +kernel
theorem dX1_pack_121 : decode cX1_pack 121 = .ok (.iadd, 1) := by decide +kernel
theorem dX1_pack_122 : decode cX1_pack 122 = .ok (.istore 6, 2) := by decide +kernel
theorem dX1_pack_124 : decode cX1_pack 124 = .ok (.iinc 7 1, 3) := by decide +kernel
theorem dX1_pack_127 : decode cX1_pack 127 = .ok (.aload_n 1, 1) := by decide +kernel
theorem dX1_pack_128 : decode cX1_pack 128 = .ok (.iload 8, 2) := by decide +kernel
theorem dX1_pack_130 : decode cX1_pack 130 = .ok (.lload 4, 2) := by decide +kernel
theorem dX1_pack_132 : decode cX1_pack 132 = .ok (.l2i, 1) := by decide +kernel
theorem dX1_pack_133 : decode cX1_pack 133 = .ok (.sipush 255, 3) := by decide +kernel
theorem dX1_pack_136 : decode cX1_pack 136 = .ok (.iand, 1) := by decide +kernel
theorem dX1_pack_137 : decode cX1_pack 137 = .ok (.iastore, 1) := by decide +kernel
theorem dX1_pack_138 : decode cX1_pack 138 = .ok (.lload 4, 2) := by decide +kernel
theorem dX1_pack_140 : decode cX1_pack 140 = .ok (.bipush 8, 2) := by decide +kernel
theorem dX1_pack_142 : decode cX1_pack 142 = .ok (.lshr, 1) := by decide +kernel
theorem dX1_pack_143 : decode cX1_pack 143 = .ok (.lstore 4, 2) := by decide +kernel
theorem dX1_pack_145 : decode cX1_pack 145 = .ok (.iinc 6 (-8), 3) := by decide +kernel
theorem dX1_pack_148 : decode cX1_pack 148 = .ok (.iinc 8 1, 3) := by decide +kernel
theorem dX1_pack_151 : decode cX1_pack 151 = .ok (.goto (-96), 3) := by decide +kernel
theorem dX1_pack_154 : decode cX1_pack 154 = .ok (.return_, 1) := by decide +kernel
theorem dX2_init_0 : decode cX2_init 0 = .ok (.aload_n 0, 1) := by decide +kernel
theorem dX2_init_1 : decode cX2_init 1 = .ok (.invokespecial 3, 3) := by decide +kernel
theorem dX2_init_4 : decode cX2_init 4 = .ok (.aload_n 0, 1) := by decide +kernel
theorem dX2_init_5 : decode cX2_init 5 = .ok (.new 9, 3) := by decide +kernel
theorem dX2_init_8 : decode cX2_init 8 = .ok (.dup, 1) := by decide +kernel
theorem dX2_init_9 : decode cX2_init 9 = .ok (.invokespecial 11, 3) := by decide +kernel
theorem dX2_init_12 : decode cX2_init 12 = .ok (.putfield 12, 3) := by decide +kernel
theorem dX2_init_15 : decode cX2_init 15 = .ok (.aload_n 0, 1) := by decide +kernel
theorem dX2_init_16 : decode cX2_init 16 = .ok (.bipush 32, 2) := by decide +kernel
theorem dX2_init_18 : decode cX2_init 18 = .ok (.newarray .int, 2) := by decide +kernel
theorem dX2_init_20 : decode cX2_init 20 = .ok (.putfield 18, 3) := by decide +kernel
theorem dX2_init_23 : decode cX2_init 23 = .ok (.aload_n 0, 1) := by decide +kernel
theorem dX2_init_24 : decode cX2_init 24 = .ok (.bipush 32, 2) := by decide +kernel
theorem dX2_init_26 : decode cX2_init 26 = .ok (.newarray .int, 2) := by decide +kernel
theorem dX2_init_28 : decode cX2_init 28 = .ok (.putfield 22, 3) := by decide +kernel
theorem dX2_init_31 : decode cX2_init 31 = .ok (.aload_n 0, 1) := by decide +kernel
theorem dX2_init_32 : decode cX2_init 32 = .ok (.bipush 33, 2) := by decide +kernel
theorem dX2_init_34 : decode cX2_init 34 = .ok (.newarray .int, 2) := by decide +kernel
theorem dX2_init_36 : decode cX2_init 36 = .ok (.putfield 25, 3) := by decide +kernel
theorem dX2_init_39 : decode cX2_init 39 = .ok (.return_, 1) := by decide +kernel
theorem dX2_makeKeys_0 : decode cX2_makeKeys 0 = .ok (.aload_n 0, 1) := by decide +kernel
theorem dX2_makeKeys_1 : decode cX2_makeKeys 1 = .ok (.aload_n 1, 1) := by decide +kernel
theorem dX2_makeKeys_2 : decode cX2_makeKeys 2 = .ok (.aload_n 2, 1) := by decide +kernel
theorem dX2_makeKeys_3 : decode cX2_makeKeys 3 = .ok (.iload_n 3, 1) := by decide +kernel
theorem dX2_makeKeys_4 : decode cX2_makeKeys 4 = .ok (.aload_n 0, 1) := by decide +kernel
theorem dX2_makeKeys_5 : decode cX2_makeKeys 5 = .ok (.getfield 22, 3) := by decide +kernel
theorem dX2_makeKeys_8 : decode cX2_makeKeys 8 = .ok (.invokevirtual 28, 3) := by decide +kernel
theorem dX2_makeKeys_11 : decode cX2_makeKeys 11 = .ok (.aload_n 0, 1) := by decide +kernel
theorem dX2_makeKeys_12 : decode cX2_makeKeys 12 = .ok (.getfield 25, 3) := by decide +kernel
theorem dX2_makeKeys_15 : decode cX2_makeKeys 15 = .ok (.iconst 0, 1) := by decide +kernel
theorem dX2_makeKeys_16 : decode cX2_makeKeys 16 = .ok (.iconst 1, 1) := by decide +kernel
theorem dX2_makeKeys_17 : decode cX2_makeKeys 17 = .ok (.iastore, 1) := by decide +kernel
theorem dX2_makeKeys_18 : decode cX2_makeKeys 18 = .ok (.aload_n 0, 1) := by decide +kernel
theorem dX2_makeKeys_19 : decode cX2_makeKeys 19 = .ok (.aload_n 0, 1) := by decide +kernel
theorem dX2_makeKeys_20 : decode cX2_makeKeys 20 = .ok (.getfield 22, 3) := by decide +kernel
theorem dX2_makeKeys_23 : decode cX2_makeKeys 23 = .ok (.aload_n 0, 1) := by decide +kernel
theorem dX2_makeKeys_24 : decode cX2_makeKeys 24 = .ok (.getfield 25, 3) := by decide +kernel
theorem dX2_makeKeys_27 : decode cX2_makeKeys 27 = .ok (.iconst 1, 1) := by decide +kernel
theorem dX2_makeKeys_28 : decode cX2_makeKeys 28 = .ok (.aload 4, 2) := by decide +kernel
theorem dX2_makeKeys_30 : decode cX2_makeKeys 30 = .ok (.invokevirtual 28, 3) := by decide +kernel
theorem dX2_makeKeys_33 : decode cX2_makeKeys 33 = .ok (.aload 4, 2) := by decide +kernel
theorem dX2_makeKeys_35 : decode cX2_makeKeys 35 = .ok (.aload_n 0, 1) := by decide +kernel
theorem dX2_makeKeys_36 : decode cX2_makeKeys 36 = .ok (.getfield 25, 3) := by decide +kernel
theorem dX2_makeKeys_39 : decode cX2_makeKeys 39 = .ok (.invokestatic 32, 3) := by decide +kernel
theorem dX2_makeKeys_42 : decode cX2_makeKeys 42 = .ok (.aload_n 0, 1) := by decide +kernel
theorem dX2_makeKeys_43 : decode cX2_makeKeys 43 = .ok (.getfield 25, 3) := by decide +kernel
theorem dX2_makeKeys_46 : decode cX2_makeKeys 46 = .ok (.bipush 32, 2) := by decide +kernel
theorem dX2_makeKeys_48 : decode cX2_makeKeys 48 = .ok (.iconst 2, 1) := by decide +kernel
theorem dX2_makeKeys_49 : decode cX2_makeKeys 49 = .ok (.iastore, 1) := by decide +kernel
theorem dX2_makeKeys_50 : decode cX2_makeKeys 50 = .ok (.aload_n 0, 1) := by decide +kernel
theorem dX2_makeKeys_51 : decode cX2_makeKeys 51 = .ok (.aload_n 0, 1) := by decide +kernel
theorem dX2_makeKeys_52 : decode cX2_makeKeys 52 = .ok (.getfield 22, 3) := by decide +kernel
theorem dX2_makeKeys_55 : decode cX2_makeKeys 55 = .ok (.aload_n 0, 1) := by decide +kernel
theorem dX2_makeKeys_56 : decode cX2_makeKeys 56 = .ok (.getfield 25, 3) := by decide +kernel
theorem dX2_makeKeys_59 : decode cX2_makeKeys 59 = .ok (.bipush 33, 2) := by decide +kernel
theorem dX2_makeKeys_61 : decode cX2_makeKeys 61 = .ok (.aload 5, 2) := by decide +kernel
theorem dX2_makeKeys_63 : decode cX2_makeKeys 63 = .ok (.invokevirtual 28, 3) := by decide +kernel
theorem dX2_makeKeys_66 : decode cX2_makeKeys 66 = .ok (.return_, 1) := by decide +kernel
theorem dX2_makeMac_0 : decode cX2_makeMac 0 = .ok (.aload_n 0, 1) := by decide +kernel
theorem dX2_makeMac_1 : decode cX2_makeMac 1 = .ok (.aload_n 1, 1) := by decide +kernel
theorem dX2_makeMac_2 : decode cX2_makeMac 2 = .ok (.bipush 54, 2) := by decide +kernel
theorem dX2_makeMac_4 : decode cX2_makeMac 4 = .ok (.invokevirtual 36, 3) := by decide +kernel
theorem dX2_makeMac_7 : decode cX2_makeMac 7 = .ok (.aload_n 0, 1) := by decide +kernel
theorem dX2_makeMac_8 : decode cX2_makeMac 8 = .ok (.getfield 12, 3) := by decide +kernel
theorem dX2_makeMac_11 : decode cX2_makeMac 11 = .ok (.aload_n 2, 1) := by decide +kernel
theorem dX2_makeMac_12 : decode cX2_makeMac 12 = .ok (.iconst 0, 1) := by decide +kernel
theorem dX2_makeMac_13 : decode cX2_makeMac 13 = .ok (.iload_n 3, 1) := by decide +kernel
theorem dX2_makeMac_14 : decode cX2_makeMac 14 = .ok (.invokevirtual 40, 3) := by decide +kernel
theorem dX2_makeMac_17 : decode cX2_makeMac 17 = .ok (.aload_n 0, 1) := by decide +kernel
theorem dX2_makeMac_18 : decode cX2_makeMac 18 = .ok (.getfield 12, 3) := by decide +kernel
theorem dX2_makeMac_21 : decode cX2_makeMac 21 = .ok (.aload_n 0, 1) := by decide +kernel
theorem dX2_makeMac_22 : decode cX2_makeMac 22 = .ok (.getfield 18, 3) := by decide +kernel
theorem dX2_makeMac_25 : decode cX2_makeMac 25 = .ok (.invokevirtual 44, 3) := by decide +kernel
theorem dX2_makeMac_28 : decode cX2_makeMac 28 = .ok (.aload_n 0, 1) := by decide +kernel
theorem dX2_makeMac_29 : decode cX2_makeMac 29 = .ok (.aload_n 1, 1) := by decide +kernel
theorem dX2_makeMac_30 : decode cX2_makeMac 30 = .ok (.bipush 92, 2) := by decide +kernel
theorem dX2_makeMac_32 : decode cX2_makeMac 32 = .ok (.invokevirtual 36, 3) := by decide +kernel
theorem dX2_makeMac_35 : decode cX2_makeMac 35 = .ok (.aload_n 0, 1) := by decide +kernel
theorem dX2_makeMac_36 : decode cX2_makeMac 36 = .ok (.getfield 12, 3) := by decide +kernel
theorem dX2_makeMac_39 : decode cX2_makeMac 39 = .ok (.aload_n 0, 1) := by decide +kernel
theorem dX2_makeMac_40 : decode cX2_makeMac 40 = .ok (.getfield 18, 3) := by decide +kernel
theorem dX2_makeMac_43 : decode cX2_makeMac 43 = .ok (.iconst 0, 1) := by decide +kernel
theorem dX2_makeMac_44 : decode cX2_makeMac 44 = .ok (.bipush 32, 2) := by decide +kernel
theorem dX2_makeMac_46 : decode cX2_makeMac 46 = .ok (.invokevirtual 40, 3) := by decide +kernel
theorem dX2_makeMac_49 : decode cX2_makeMac 49 = .ok (.aload_n 0, 1) := by decide +kernel
theorem dX2_makeMac_50 : decode cX2_makeMac 50 = .ok (.getfield 12, 3) := by decide +kernel
theorem dX2_makeMac_53 : decode cX2_makeMac 53 = .ok (.aload 4, 2) := by decide +kernel
theorem dX2_makeMac_55 : decode cX2_makeMac 55 = .ok (.invokevirtual 44, 3) := by decide +kernel
theorem dX2_makeMac_58 : decode cX2_makeMac 58 = .ok (.return_, 1) := by decide +kernel
theorem dX2_beginWith_0 : decode cX2_beginWith 0 = .ok (.aload_n 0, 1) := by decide +kernel
theorem dX2_beginWith_1 : decode cX2_beginWith 1 = .ok (.getfield 12, 3) := by decide +kernel
theorem dX2_beginWith_4 : decode cX2_beginWith 4 = .ok (.invokevirtual 48, 3) := by decide +kernel
theorem dX2_beginWith_7 : decode cX2_beginWith 7 = .ok (.iconst 0, 1) := by decide +kernel
theorem dX2_beginWith_8 : decode cX2_beginWith 8 = .ok (.istore_n 3, 1) := by decide +kernel
theorem dX2_beginWith_9 : decode cX2_beginWith 9 = .ok (.iload_n 3, 1) := by decide +kernel
theorem dX2_beginWith_10 : decode cX2_beginWith 10 = .ok (.bipush 64, 2) := by decide +kernel
theorem dX2_beginWith_12 : decode cX2_beginWith 12 = .ok (.if_icmp .ge 31, 3) := by decide +kernel
theorem dX2_beginWith_15 : decode cX2_beginWith 15 = .ok (.aload_n 0, 1) := by decide +kernel
theorem dX2_beginWith_16 : decode cX2_beginWith 16 = .ok (.getfield 12, 3) := by decide +kernel
theorem dX2_beginWith_19 : decode cX2_beginWith 19 = .ok (.iload_n 3, 1) := by decide +kernel
theorem dX2_beginWith_20 : decode cX2_beginWith 20 = .ok (.bipush 32, 2) := by decide +kernel
theorem dX2_beginWith_22 : decode cX2_beginWith 22 = .ok (.if_icmp .ge 11, 3) := by decide +kernel
theorem dX2_beginWith_25 : decode cX2_beginWith 25 = .ok (.aload_n 1, 1) := by decide +kernel
theorem dX2_beginWith_26 : decode cX2_beginWith 26 = .ok (.iload_n 3, 1) := by decide +kernel
theorem dX2_beginWith_27 : decode cX2_beginWith 27 = .ok (.iaload, 1) := by decide +kernel
theorem dX2_beginWith_28 : decode cX2_beginWith 28 = .ok (.iload_n 2, 1) := by decide +kernel
theorem dX2_beginWith_29 : decode cX2_beginWith 29 = .ok (.ixor, 1) := by decide +kernel
theorem dX2_beginWith_30 : decode cX2_beginWith 30 = .ok (.goto 4, 3) := by decide +kernel
theorem dX2_beginWith_33 : decode cX2_beginWith 33 = .ok (.iload_n 2, 1) := by decide +kernel
theorem dX2_beginWith_34 : decode cX2_beginWith 34 = .ok (.invokevirtual 51, 3) := by decide +kernel
theorem dX2_beginWith_37 : decode cX2_beginWith 37 = .ok (.iinc 3 1, 3) := by decide +kernel
theorem dX2_beginWith_40 : decode cX2_beginWith 40 = .ok (.goto (-31), 3) := by decide +kernel
theorem dX2_beginWith_43 : decode cX2_beginWith 43 = .ok (.return_, 1) := by decide +kernel
theorem dX3_init_0 : decode cX3_init 0 = .ok (.aload_n 0, 1) := by decide +kernel
theorem dX3_init_1 : decode cX3_init 1 = .ok (.invokespecial 3, 3) := by decide +kernel
theorem dX3_init_4 : decode cX3_init 4 = .ok (.aload_n 0, 1) := by decide +kernel
theorem dX3_init_5 : decode cX3_init 5 = .ok (.bipush 6, 2) := by decide +kernel
theorem dX3_init_7 : decode cX3_init 7 = .ok (.iconst 5, 1) := by decide +kernel
theorem dX3_init_8 : decode cX3_init 8 = .ok (.multianewarray 11 2, 4) := by decide +kernel
theorem dX3_init_12 : decode cX3_init 12 = .ok (.putfield 13, 3) := by decide +kernel
theorem dX3_init_15 : decode cX3_init 15 = .ok (.aload_n 0, 1) := by decide +kernel
theorem dX3_init_16 : decode cX3_init 16 = .ok (.bipush 6, 2) := by decide +kernel
theorem dX3_init_18 : decode cX3_init 18 = .ok (.newarray .int, 2) := by decide +kernel
theorem dX3_init_20 : decode cX3_init 20 = .ok (.putfield 16, 3) := by decide +kernel
theorem dX3_init_23 : decode cX3_init 23 = .ok (.aload_n 0, 1) := by decide +kernel
theorem dX3_init_24 : decode cX3_init 24 = .ok (.iconst 0, 1) := by decide +kernel
theorem dX3_init_25 : decode cX3_init 25 = .ok (.putfield 20, 3) := by decide +kernel
theorem dX3_init_28 : decode cX3_init 28 = .ok (.aload_n 0, 1) := by decide +kernel
theorem dX3_init_29 : decode cX3_init 29 = .ok (.iconst 0, 1) := by decide +kernel
theorem dX3_init_30 : decode cX3_init 30 = .ok (.putfield 24, 3) := by decide +kernel
theorem dX3_init_33 : decode cX3_init 33 = .ok (.aload_n 0, 1) := by decide +kernel
theorem dX3_init_34 : decode cX3_init 34 = .ok (.iload_n 1, 1) := by decide +kernel
theorem dX3_init_35 : decode cX3_init 35 = .ok (.putfield 28, 3) := by decide +kernel
theorem dX3_init_38 : decode cX3_init 38 = .ok (.aload_n 0, 1) := by decide +kernel
theorem dX3_init_39 : decode cX3_init 39 = .ok (.iload_n 2, 1) := by decide +kernel
theorem dX3_init_40 : decode cX3_init 40 = .ok (.putfield 31, 3) := by decide +kernel
theorem dX3_init_43 : decode cX3_init 43 = .ok (.return_, 1) := by decide +kernel
theorem dX3_addMessage_0 : decode cX3_addMessage 0 = .ok (.aload_n 0, 1) := by decide +kernel
theorem dX3_addMessage_1 : decode cX3_addMessage 1 = .ok (.getfield 20, 3) := by decide +kernel
theorem dX3_addMessage_4 : decode cX3_addMessage 4 = .ok (.bipush 6, 2) := by decide +kernel
theorem dX3_addMessage_6 : decode cX3_addMessage 6 = .ok (.if_icmp .lt 6, 3) := by decide +kernel
theorem dX3_addMessage_9 : decode cX3_addMessage 9 = .ok (.bipush (-4), 2) := by decide +kernel
theorem dX3_addMessage_11 : decode cX3_addMessage 11 = .ok (.ireturn, 1) := by decide +kernel
theorem dX3_addMessage_12 : decode cX3_addMessage 12 = .ok (.aload_n 0, 1) := by decide +kernel
theorem dX3_addMessage_13 : decode cX3_addMessage 13 = .ok (.dup, 1) := by decide +kernel
theorem dX3_addMessage_14 : decode cX3_addMessage 14 = .ok (.getfield 20, 3) := by decide +kernel
theorem dX3_addMessage_17 : decode cX3_addMessage 17 = .ok (.iconst 1, 1) := by decide +kernel
theorem dX3_addMessage_18 : decode cX3_addMessage 18 = .ok (.iadd, 1) := by decide +kernel
theorem dX3_addMessage_19 : decode cX3_addMessage 19 = .ok (.putfield 20, 3) := by decide +kernel
theorem dX3_addMessage_22 : decode cX3_addMessage 22 = .ok (.aload_n 0, 1) := by decide +kernel
theorem dX3_addMessage_23 : decode cX3_addMessage 23 = .ok (.getfield 20, 3) := by decide +kernel
theorem dX3_addMessage_26 : decode cX3_addMessage 26 = .ok (.ireturn, 1) := by decide +kernel
theorem dX3_addToken_0 : decode cX3_addToken 0 = .ok (.aload_n 0, 1) := by decide +kernel
theorem dX3_addToken_1 : decode cX3_addToken 1 = .ok (.getfield 20, 3) := by decide +kernel
theorem dX3_addToken_4 : decode cX3_addToken 4 = .ok (.ifCond .ne 6, 3) := by decide +kernel
theorem dX3_addToken_7 : decode cX3_addToken 7 = .ok (.bipush (-3), 2) := by decide +kernel
theorem dX3_addToken_9 : decode cX3_addToken 9 = .ok (.ireturn, 1) := by decide +kernel
theorem dX3_addToken_10 : decode cX3_addToken 10 = .ok (.aload_n 0, 1) := by decide +kernel
theorem dX3_addToken_11 : decode cX3_addToken 11 = .ok (.getfield 20, 3) := by decide +kernel
theorem dX3_addToken_14 : decode cX3_addToken 14 = .ok (.iconst 1, 1) := by decide +kernel
theorem dX3_addToken_15 : decode cX3_addToken 15 = .ok (.isub, 1) := by decide +kernel
theorem dX3_addToken_16 : decode cX3_addToken 16 = .ok (.istore_n 2, 1) := by decide +kernel
theorem dX3_addToken_17 : decode cX3_addToken 17 = .ok (.aload_n 0, 1) := by decide +kernel
theorem dX3_addToken_18 : decode cX3_addToken 18 = .ok (.getfield 16, 3) := by decide +kernel
theorem dX3_addToken_21 : decode cX3_addToken 21 = .ok (.iload_n 2, 1) := by decide +kernel
theorem dX3_addToken_22 : decode cX3_addToken 22 = .ok (.iaload, 1) := by decide +kernel
theorem dX3_addToken_23 : decode cX3_addToken 23 = .ok (.iconst 5, 1) := by decide +kernel
theorem dX3_addToken_24 : decode cX3_addToken 24 = .ok (.if_icmp .lt 6, 3) := by decide +kernel
theorem dX3_addToken_27 : decode cX3_addToken 27 = .ok (.bipush (-4), 2) := by decide +kernel
theorem dX3_addToken_29 : decode cX3_addToken 29 = .ok (.ireturn, 1) := by decide +kernel
theorem dX3_addToken_30 : decode cX3_addToken 30 = .ok (.aload_n 0, 1) := by decide +kernel
theorem dX3_addToken_31 : decode cX3_addToken 31 = .ok (.getfield 13, 3) := by decide +kernel
theorem dX3_addToken_34 : decode cX3_addToken 34 = .ok (.iload_n 2, 1) := by decide +kernel
theorem dX3_addToken_35 : decode cX3_addToken 35 = .ok (.aaload, 1) := by decide +kernel
theorem dX3_addToken_36 : decode cX3_addToken 36 = .ok (.aload_n 0, 1) := by decide +kernel
theorem dX3_addToken_37 : decode cX3_addToken 37 = .ok (.getfield 16, 3) := by decide +kernel
theorem dX3_addToken_40 : decode cX3_addToken 40 = .ok (.iload_n 2, 1) := by decide +kernel
theorem dX3_addToken_41 : decode cX3_addToken 41 = .ok (.iaload, 1) := by decide +kernel
theorem dX3_addToken_42 : decode cX3_addToken 42 = .ok (.iload_n 1, 1) := by decide +kernel
theorem dX3_addToken_43 : decode cX3_addToken 43 = .ok (.iastore, 1) := by decide +kernel
theorem dX3_addToken_44 : decode cX3_addToken 44 = .ok (.aload_n 0, 1) := by decide +kernel
theorem dX3_addToken_45 : decode cX3_addToken 45 = .ok (.getfield 16, 3) := by decide +kernel
theorem dX3_addToken_48 : decode cX3_addToken 48 = .ok (.iload_n 2, 1) := by decide +kernel
theorem dX3_addToken_49 : decode cX3_addToken 49 = .ok (.dup2, 1) := by decide +kernel
theorem dX3_addToken_50 : decode cX3_addToken 50 = .ok (.iaload, 1) := by decide +kernel
theorem dX3_addToken_51 : decode cX3_addToken 51 = .ok (.iconst 1, 1) := by decide +kernel
theorem dX3_addToken_52 : decode cX3_addToken 52 = .ok (.iadd, 1) := by decide +kernel
theorem dX3_addToken_53 : decode cX3_addToken 53 = .ok (.iastore, 1) := by decide +kernel
theorem dX3_addToken_54 : decode cX3_addToken 54 = .ok (.aload_n 0, 1) := by decide +kernel
theorem dX3_addToken_55 : decode cX3_addToken 55 = .ok (.getfield 16, 3) := by decide +kernel
theorem dX3_addToken_58 : decode cX3_addToken 58 = .ok (.iload_n 2, 1) := by decide +kernel
theorem dX3_addToken_59 : decode cX3_addToken 59 = .ok (.iaload, 1) := by decide +kernel
theorem dX3_addToken_60 : decode cX3_addToken 60 = .ok (.ireturn, 1) := by decide +kernel
theorem dX3_sizeOf_0 : decode cX3_sizeOf 0 = .ok (.iload_n 1, 1) := by decide +kernel
theorem dX3_sizeOf_1 : decode cX3_sizeOf 1 = .ok (.ifCond .lt 20, 3) := by decide +kernel
theorem dX3_sizeOf_4 : decode cX3_sizeOf 4 = .ok (.iload_n 1, 1) := by decide +kernel
theorem dX3_sizeOf_5 : decode cX3_sizeOf 5 = .ok (.aload_n 0, 1) := by decide +kernel
theorem dX3_sizeOf_6 : decode cX3_sizeOf 6 = .ok (.getfield 20, 3) := by decide +kernel
theorem dX3_sizeOf_9 : decode cX3_sizeOf 9 = .ok (.if_icmp .ge 12, 3) := by decide +kernel
theorem dX3_sizeOf_12 : decode cX3_sizeOf 12 = .ok (.aload_n 0, 1) := by decide +kernel
theorem dX3_sizeOf_13 : decode cX3_sizeOf 13 = .ok (.getfield 16, 3) := by decide +kernel
theorem dX3_sizeOf_16 : decode cX3_sizeOf 16 = .ok (.iload_n 1, 1) := by decide +kernel
theorem dX3_sizeOf_17 : decode cX3_sizeOf 17 = .ok (.iaload, 1) := by decide +kernel
theorem dX3_sizeOf_18 : decode cX3_sizeOf 18 = .ok (.goto 4, 3) := by decide +kernel
theorem dX3_sizeOf_21 : decode cX3_sizeOf 21 = .ok (.iconst (-1), 1) := by decide +kernel
theorem dX3_sizeOf_22 : decode cX3_sizeOf 22 = .ok (.ireturn, 1) := by decide +kernel
theorem dX3_tokenAt_0 : decode cX3_tokenAt 0 = .ok (.iload_n 2, 1) := by decide +kernel
theorem dX3_tokenAt_1 : decode cX3_tokenAt 1 = .ok (.ifCond .lt 23, 3) := by decide +kernel
theorem dX3_tokenAt_4 : decode cX3_tokenAt 4 = .ok (.iload_n 2, 1) := by decide +kernel
theorem dX3_tokenAt_5 : decode cX3_tokenAt 5 = .ok (.aload_n 0, 1) := by decide +kernel
theorem dX3_tokenAt_6 : decode cX3_tokenAt 6 = .ok (.iload_n 1, 1) := by decide +kernel
theorem dX3_tokenAt_7 : decode cX3_tokenAt 7 = .ok (.invokevirtual 34, 3) := by decide +kernel
theorem dX3_tokenAt_10 : decode cX3_tokenAt 10 = .ok (.if_icmp .ge 14, 3) := by decide +kernel
theorem dX3_tokenAt_13 : decode cX3_tokenAt 13 = .ok (.aload_n 0, 1) := by decide +kernel
theorem dX3_tokenAt_14 : decode cX3_tokenAt 14 = .ok (.getfield 13, 3) := by decide +kernel
theorem dX3_tokenAt_17 : decode cX3_tokenAt 17 = .ok (.iload_n 1, 1) := by decide +kernel
theorem dX3_tokenAt_18 : decode cX3_tokenAt 18 = .ok (.aaload, 1) := by decide +kernel
theorem dX3_tokenAt_19 : decode cX3_tokenAt 19 = .ok (.iload_n 2, 1) := by decide +kernel
theorem dX3_tokenAt_20 : decode cX3_tokenAt 20 = .ok (.iaload, 1) := by decide +kernel
theorem dX3_tokenAt_21 : decode cX3_tokenAt 21 = .ok (.goto 4, 3) := by decide +kernel
theorem dX3_tokenAt_24 : decode cX3_tokenAt 24 = .ok (.iconst (-1), 1) := by decide +kernel
theorem dX3_tokenAt_25 : decode cX3_tokenAt 25 = .ok (.ireturn, 1) := by decide +kernel
theorem dX3_isKnownAhead_0 : decode cX3_isKnownAhead 0 = .ok (.iload_n 1, 1) := by decide +kernel
theorem dX3_isKnownAhead_1 : decode cX3_isKnownAhead 1 = .ok (.ifCond .ne 10, 3) := by decide +kernel
theorem dX3_isKnownAhead_4 : decode cX3_isKnownAhead 4 = .ok (.aload_n 0, 1) := by decide +kernel
theorem dX3_isKnownAhead_5 : decode cX3_isKnownAhead 5 = .ok (.getfield 28, 3) := by decide +kernel
theorem dX3_isKnownAhead_8 : decode cX3_isKnownAhead 8 = .ok (.goto 7, 3) := by decide +kernel
theorem dX3_isKnownAhead_11 : decode cX3_isKnownAhead 11 = .ok (.aload_n 0, 1) := by decide +kernel
theorem dX3_isKnownAhead_12 : decode cX3_isKnownAhead 12 = .ok (.getfield 31, 3) := by decide +kernel
theorem dX3_isKnownAhead_15 : decode cX3_isKnownAhead 15 = .ok (.ireturn, 1) := by decide +kernel
theorem dX3_sendsS_0 : decode cX3_sendsS 0 = .ok (.iload_n 1, 1) := by decide +kernel
theorem dX3_sendsS_1 : decode cX3_sendsS 1 = .ok (.istore_n 2, 1) := by decide +kernel
theorem dX3_sendsS_2 : decode cX3_sendsS 2 = .ok (.iload_n 2, 1) := by decide +kernel
theorem dX3_sendsS_3 : decode cX3_sendsS 3 = .ok (.aload_n 0, 1) := by decide +kernel
theorem dX3_sendsS_4 : decode cX3_sendsS 4 = .ok (.getfield 20, 3) := by decide +kernel
theorem dX3_sendsS_7 : decode cX3_sendsS 7 = .ok (.if_icmp .ge 41, 3) := by decide +kernel
theorem dX3_sendsS_10 : decode cX3_sendsS 10 = .ok (.iconst 0, 1) := by decide +kernel
theorem dX3_sendsS_11 : decode cX3_sendsS 11 = .ok (.istore_n 3, 1) := by decide +kernel
theorem dX3_sendsS_12 : decode cX3_sendsS 12 = .ok (.iload_n 3, 1) := by decide +kernel
theorem dX3_sendsS_13 : decode cX3_sendsS 13 = .ok (.aload_n 0, 1) := by decide +kernel
theorem dX3_sendsS_14 : decode cX3_sendsS 14 = .ok (.getfield 16, 3) := by decide +kernel
theorem dX3_sendsS_17 : decode cX3_sendsS 17 = .ok (.iload_n 2, 1) := by decide +kernel
theorem dX3_sendsS_18 : decode cX3_sendsS 18 = .ok (.iaload, 1) := by decide +kernel
theorem dX3_sendsS_19 : decode cX3_sendsS 19 = .ok (.if_icmp .ge 23, 3) := by decide +kernel
theorem dX3_sendsS_22 : decode cX3_sendsS 22 = .ok (.aload_n 0, 1) := by decide +kernel
theorem dX3_sendsS_23 : decode cX3_sendsS 23 = .ok (.getfield 13, 3) := by decide +kernel
theorem dX3_sendsS_26 : decode cX3_sendsS 26 = .ok (.iload_n 2, 1) := by decide +kernel
theorem dX3_sendsS_27 : decode cX3_sendsS 27 = .ok (.aaload, 1) := by decide +kernel
theorem dX3_sendsS_28 : decode cX3_sendsS 28 = .ok (.iload_n 3, 1) := by decide +kernel
theorem dX3_sendsS_29 : decode cX3_sendsS 29 = .ok (.iaload, 1) := by decide +kernel
theorem dX3_sendsS_30 : decode cX3_sendsS 30 = .ok (.iconst 1, 1) := by decide +kernel
theorem dX3_sendsS_31 : decode cX3_sendsS 31 = .ok (.if_icmp .ne 5, 3) := by decide +kernel
theorem dX3_sendsS_34 : decode cX3_sendsS 34 = .ok (.iconst 1, 1) := by decide +kernel
theorem dX3_sendsS_35 : decode cX3_sendsS 35 = .ok (.ireturn, 1) := by decide +kernel
theorem dX3_sendsS_36 : decode cX3_sendsS 36 = .ok (.iinc 3 1, 3) := by decide +kernel
theorem dX3_sendsS_39 : decode cX3_sendsS 39 = .ok (.goto (-27), 3) := by decide +kernel
theorem dX3_sendsS_42 : decode cX3_sendsS 42 = .ok (.iinc 2 2, 3) := by decide +kernel
theorem dX3_sendsS_45 : decode cX3_sendsS 45 = .ok (.goto (-43), 3) := by decide +kernel
theorem dX3_sendsS_48 : decode cX3_sendsS 48 = .ok (.iconst 0, 1) := by decide +kernel
theorem dX3_sendsS_49 : decode cX3_sendsS 49 = .ok (.ireturn, 1) := by decide +kernel
theorem dX3_tell_0 : decode cX3_tell 0 = .ok (.iload_n 1, 1) := by decide +kernel
theorem dX3_tell_1 : decode cX3_tell 1 = .ok (.tableswitch 58 0 2 #[27, 32, 45], 27) := by decide +kernel
theorem dX3_tell_28 : decode cX3_tell 28 = .ok (.aload_n 0, 1) := by decide +kernel
theorem dX3_tell_29 : decode cX3_tell 29 = .ok (.getfield 20, 3) := by decide +kernel
