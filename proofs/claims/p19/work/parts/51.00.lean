theorem dL_law_1691 : decode cL_law 1691 = .ok (.iinc 4 6, 3) := by decide +kernel
theorem dL_law_1694 : decode cL_law 1694 = .ok (.goto (-1671), 3) := by decide +kernel
theorem dL_law_224 : decode cL_law 224 = .ok (.aload_n 1, 1) := by decide +kernel
theorem dL_law_225 : decode cL_law 225 = .ok (.aload_n 0, 1) := by decide +kernel
theorem dL_law_226 : decode cL_law 226 = .ok (.iload 4, 2) := by decide +kernel
theorem dL_law_228 : decode cL_law 228 = .ok (.iconst 1, 1) := by decide +kernel
theorem dL_law_229 : decode cL_law 229 = .ok (.iadd, 1) := by decide +kernel
theorem dL_law_230 : decode cL_law 230 = .ok (.iaload, 1) := by decide +kernel
theorem dL_law_231 : decode cL_law 231 = .ok (.aload_n 0, 1) := by decide +kernel
theorem dL_law_232 : decode cL_law 232 = .ok (.iload 4, 2) := by decide +kernel
theorem dL_law_234 : decode cL_law 234 = .ok (.iconst 2, 1) := by decide +kernel
theorem dL_law_235 : decode cL_law 235 = .ok (.iadd, 1) := by decide +kernel
theorem dL_law_236 : decode cL_law 236 = .ok (.iaload, 1) := by decide +kernel
theorem dL_law_237 : decode cL_law 237 = .ok (.aload_n 0, 1) := by decide +kernel
theorem dL_law_238 : decode cL_law 238 = .ok (.iload 4, 2) := by decide +kernel
theorem dL_law_240 : decode cL_law 240 = .ok (.iconst 3, 1) := by decide +kernel
theorem dL_law_241 : decode cL_law 241 = .ok (.iadd, 1) := by decide +kernel
theorem dL_law_242 : decode cL_law 242 = .ok (.iaload, 1) := by decide +kernel
theorem dL_law_243 : decode cL_law 243 = .ok (.aload_n 0, 1) := by decide +kernel
theorem dL_law_244 : decode cL_law 244 = .ok (.iload 4, 2) := by decide +kernel
theorem dL_law_246 : decode cL_law 246 = .ok (.iconst 4, 1) := by decide +kernel
theorem dL_law_247 : decode cL_law 247 = .ok (.iadd, 1) := by decide +kernel
theorem dL_law_248 : decode cL_law 248 = .ok (.iaload, 1) := by decide +kernel
theorem dL_law_249 : decode cL_law 249 = .ok (.aload_n 0, 1) := by decide +kernel
theorem dL_law_250 : decode cL_law 250 = .ok (.iload 4, 2) := by decide +kernel
theorem dL_law_252 : decode cL_law 252 = .ok (.iconst 5, 1) := by decide +kernel
theorem dL_law_253 : decode cL_law 253 = .ok (.iadd, 1) := by decide +kernel
theorem dL_law_254 : decode cL_law 254 = .ok (.iaload, 1) := by decide +kernel
theorem dL_law_255 : decode cL_law 255 = .ok (.invokevirtual 121, 3) := by decide +kernel
theorem dL_law_258 : decode cL_law 258 = .ok (.pop, 1) := by decide +kernel
theorem dL_law_259 : decode cL_law 259 = .ok (.aload_n 2, 1) := by decide +kernel
theorem dL_law_260 : decode cL_law 260 = .ok (.aload_n 0, 1) := by decide +kernel
theorem dL_law_261 : decode cL_law 261 = .ok (.iload 4, 2) := by decide +kernel
theorem dL_law_263 : decode cL_law 263 = .ok (.iconst 1, 1) := by decide +kernel
theorem dL_law_264 : decode cL_law 264 = .ok (.iadd, 1) := by decide +kernel
theorem dL_law_265 : decode cL_law 265 = .ok (.iaload, 1) := by decide +kernel
theorem dL_law_266 : decode cL_law 266 = .ok (.aload_n 0, 1) := by decide +kernel
theorem dL_law_267 : decode cL_law 267 = .ok (.iload 4, 2) := by decide +kernel
theorem dL_law_269 : decode cL_law 269 = .ok (.iconst 2, 1) := by decide +kernel
theorem dL_law_270 : decode cL_law 270 = .ok (.iadd, 1) := by decide +kernel
theorem dL_law_271 : decode cL_law 271 = .ok (.iaload, 1) := by decide +kernel
theorem dL_law_272 : decode cL_law 272 = .ok (.aload_n 0, 1) := by decide +kernel
theorem dL_law_273 : decode cL_law 273 = .ok (.iload 4, 2) := by decide +kernel
theorem dL_law_275 : decode cL_law 275 = .ok (.iconst 3, 1) := by decide +kernel
theorem dL_law_276 : decode cL_law 276 = .ok (.iadd, 1) := by decide +kernel
theorem dL_law_277 : decode cL_law 277 = .ok (.iaload, 1) := by decide +kernel
theorem dL_law_278 : decode cL_law 278 = .ok (.aload_n 0, 1) := by decide +kernel
theorem dL_law_279 : decode cL_law 279 = .ok (.iload 4, 2) := by decide +kernel
theorem dL_law_281 : decode cL_law 281 = .ok (.iconst 4, 1) := by decide +kernel
theorem dL_law_282 : decode cL_law 282 = .ok (.iadd, 1) := by decide +kernel
theorem dL_law_283 : decode cL_law 283 = .ok (.iaload, 1) := by decide +kernel
theorem dL_law_284 : decode cL_law 284 = .ok (.aload_n 0, 1) := by decide +kernel
theorem dL_law_285 : decode cL_law 285 = .ok (.iload 4, 2) := by decide +kernel
theorem dL_law_287 : decode cL_law 287 = .ok (.iconst 5, 1) := by decide +kernel
theorem dL_law_288 : decode cL_law 288 = .ok (.iadd, 1) := by decide +kernel
theorem dL_law_289 : decode cL_law 289 = .ok (.iaload, 1) := by decide +kernel
theorem dL_law_290 : decode cL_law 290 = .ok (.invokevirtual 125, 3) := by decide +kernel
theorem dL_law_293 : decode cL_law 293 = .ok (.pop, 1) := by decide +kernel
theorem dL_law_294 : decode cL_law 294 = .ok (.goto 1397, 3) := by decide +kernel
theorem dL_law_297 : decode cL_law 297 = .ok (.aload_n 1, 1) := by decide +kernel
theorem dL_law_298 : decode cL_law 298 = .ok (.aload_n 0, 1) := by decide +kernel
theorem dL_law_299 : decode cL_law 299 = .ok (.iload 4, 2) := by decide +kernel
theorem dL_law_301 : decode cL_law 301 = .ok (.iconst 1, 1) := by decide +kernel
theorem dL_law_302 : decode cL_law 302 = .ok (.iadd, 1) := by decide +kernel
theorem dL_law_303 : decode cL_law 303 = .ok (.iaload, 1) := by decide +kernel
theorem dL_law_304 : decode cL_law 304 = .ok (.aload_n 3, 1) := by decide +kernel
theorem dL_law_305 : decode cL_law 305 = .ok (.invokestatic 126, 3) := by decide +kernel
theorem dL_law_308 : decode cL_law 308 = .ok (.istore 5, 2) := by decide +kernel
theorem dL_law_310 : decode cL_law 310 = .ok (.aload_n 2, 1) := by decide +kernel
theorem dL_law_311 : decode cL_law 311 = .ok (.aload_n 0, 1) := by decide +kernel
theorem dL_law_312 : decode cL_law 312 = .ok (.iload 4, 2) := by decide +kernel
theorem dL_law_314 : decode cL_law 314 = .ok (.iconst 1, 1) := by decide +kernel
theorem dL_law_315 : decode cL_law 315 = .ok (.iadd, 1) := by decide +kernel
theorem dL_law_316 : decode cL_law 316 = .ok (.iaload, 1) := by decide +kernel
theorem dL_law_317 : decode cL_law 317 = .ok (.invokevirtual 131, 3) := by decide +kernel
theorem dL_law_320 : decode cL_law 320 = .ok (.istore 6, 2) := by decide +kernel
theorem dL_law_322 : decode cL_law 322 = .ok (.goto 1369, 3) := by decide +kernel
theorem dL_law_325 : decode cL_law 325 = .ok (.aload_n 1, 1) := by decide +kernel
theorem dL_law_326 : decode cL_law 326 = .ok (.aload_n 0, 1) := by decide +kernel
theorem dL_law_327 : decode cL_law 327 = .ok (.iload 4, 2) := by decide +kernel
theorem dL_law_329 : decode cL_law 329 = .ok (.iconst 1, 1) := by decide +kernel
theorem dL_law_330 : decode cL_law 330 = .ok (.iadd, 1) := by decide +kernel
theorem dL_law_331 : decode cL_law 331 = .ok (.iaload, 1) := by decide +kernel
theorem dL_law_332 : decode cL_law 332 = .ok (.invokevirtual 132, 3) := by decide +kernel
theorem dL_law_335 : decode cL_law 335 = .ok (.pop, 1) := by decide +kernel
theorem dL_law_336 : decode cL_law 336 = .ok (.aload_n 2, 1) := by decide +kernel
theorem dL_law_337 : decode cL_law 337 = .ok (.aload_n 0, 1) := by decide +kernel
theorem dL_law_338 : decode cL_law 338 = .ok (.iload 4, 2) := by decide +kernel
theorem dL_law_340 : decode cL_law 340 = .ok (.iconst 1, 1) := by decide +kernel
theorem dL_law_341 : decode cL_law 341 = .ok (.iadd, 1) := by decide +kernel
theorem dL_law_342 : decode cL_law 342 = .ok (.iaload, 1) := by decide +kernel
theorem dL_law_343 : decode cL_law 343 = .ok (.invokevirtual 135, 3) := by decide +kernel
theorem dL_law_346 : decode cL_law 346 = .ok (.pop, 1) := by decide +kernel
theorem dL_law_347 : decode cL_law 347 = .ok (.goto 1344, 3) := by decide +kernel
theorem dL_law_350 : decode cL_law 350 = .ok (.aload_n 1, 1) := by decide +kernel
theorem dL_law_351 : decode cL_law 351 = .ok (.aload_n 0, 1) := by decide +kernel
theorem dL_law_352 : decode cL_law 352 = .ok (.iload 4, 2) := by decide +kernel
theorem dL_law_354 : decode cL_law 354 = .ok (.iconst 1, 1) := by decide +kernel
theorem dL_law_355 : decode cL_law 355 = .ok (.iadd, 1) := by decide +kernel
theorem dL_law_356 : decode cL_law 356 = .ok (.iaload, 1) := by decide +kernel
theorem dL_law_357 : decode cL_law 357 = .ok (.aload_n 0, 1) := by decide +kernel
theorem dL_law_358 : decode cL_law 358 = .ok (.iload 4, 2) := by decide +kernel
theorem dL_law_360 : decode cL_law 360 = .ok (.iconst 2, 1) := by decide +kernel
theorem dL_law_361 : decode cL_law 361 = .ok (.iadd, 1) := by decide +kernel
theorem dL_law_362 : decode cL_law 362 = .ok (.iaload, 1) := by decide +kernel
theorem dL_law_363 : decode cL_law 363 = .ok (.aload_n 3, 1) := by decide +kernel
theorem dL_law_364 : decode cL_law 364 = .ok (.invokestatic 136, 3) := by decide +kernel
theorem dL_law_367 : decode cL_law 367 = .ok (.istore 5, 2) := by decide +kernel
theorem dL_law_369 : decode cL_law 369 = .ok (.aload_n 2, 1) := by decide +kernel
theorem dL_law_370 : decode cL_law 370 = .ok (.aload_n 0, 1) := by decide +kernel
theorem dL_law_371 : decode cL_law 371 = .ok (.iload 4, 2) := by decide +kernel
theorem dL_law_373 : decode cL_law 373 = .ok (.iconst 1, 1) := by decide +kernel
theorem dL_law_374 : decode cL_law 374 = .ok (.iadd, 1) := by decide +kernel
theorem dL_law_375 : decode cL_law 375 = .ok (.iaload, 1) := by decide +kernel
theorem dL_law_376 : decode cL_law 376 = .ok (.aload_n 0, 1) := by decide +kernel
theorem dL_law_377 : decode cL_law 377 = .ok (.iload 4, 2) := by decide +kernel
theorem dL_law_379 : decode cL_law 379 = .ok (.iconst 2, 1) := by decide +kernel
theorem dL_law_380 : decode cL_law 380 = .ok (.iadd, 1) := by decide +kernel
theorem dL_law_381 : decode cL_law 381 = .ok (.iaload, 1) := by decide +kernel
theorem dL_law_382 : decode cL_law 382 = .ok (.invokevirtual 139, 3) := by decide +kernel
theorem dL_law_385 : decode cL_law 385 = .ok (.istore 6, 2) := by decide +kernel
theorem dL_law_387 : decode cL_law 387 = .ok (.goto 1304, 3) := by decide +kernel
theorem dL_law_390 : decode cL_law 390 = .ok (.aload_n 1, 1) := by decide +kernel
theorem dL_law_391 : decode cL_law 391 = .ok (.aload_n 0, 1) := by decide +kernel
theorem dL_law_392 : decode cL_law 392 = .ok (.iload 4, 2) := by decide +kernel
theorem dL_law_394 : decode cL_law 394 = .ok (.iconst 1, 1) := by decide +kernel
theorem dL_law_395 : decode cL_law 395 = .ok (.iadd, 1) := by decide +kernel
theorem dL_law_396 : decode cL_law 396 = .ok (.iaload, 1) := by decide +kernel
theorem dL_law_397 : decode cL_law 397 = .ok (.aload_n 0, 1) := by decide +kernel
theorem dL_law_398 : decode cL_law 398 = .ok (.iload 4, 2) := by decide +kernel
theorem dL_law_400 : decode cL_law 400 = .ok (.iconst 2, 1) := by decide +kernel
theorem dL_law_401 : decode cL_law 401 = .ok (.iadd, 1) := by decide +kernel
theorem dL_law_402 : decode cL_law 402 = .ok (.iaload, 1) := by decide +kernel
theorem dL_law_403 : decode cL_law 403 = .ok (.aload_n 3, 1) := by decide +kernel
theorem dL_law_404 : decode cL_law 404 = .ok (.invokestatic 140, 3) := by decide +kernel
theorem dL_law_407 : decode cL_law 407 = .ok (.istore 5, 2) := by decide +kernel
theorem dL_law_409 : decode cL_law 409 = .ok (.aload_n 2, 1) := by decide +kernel
theorem dL_law_410 : decode cL_law 410 = .ok (.aload_n 0, 1) := by decide +kernel
theorem dL_law_411 : decode cL_law 411 = .ok (.iload 4, 2) := by decide +kernel
theorem dL_law_413 : decode cL_law 413 = .ok (.iconst 1, 1) := by decide +kernel
theorem dL_law_414 : decode cL_law 414 = .ok (.iadd, 1) := by decide +kernel
theorem dL_law_415 : decode cL_law 415 = .ok (.iaload, 1) := by decide +kernel
theorem dL_law_416 : decode cL_law 416 = .ok (.aload_n 0, 1) := by decide +kernel
theorem dL_law_417 : decode cL_law 417 = .ok (.iload 4, 2) := by decide +kernel
theorem dL_law_419 : decode cL_law 419 = .ok (.iconst 2, 1) := by decide +kernel
theorem dL_law_420 : decode cL_law 420 = .ok (.iadd, 1) := by decide +kernel
theorem dL_law_421 : decode cL_law 421 = .ok (.iaload, 1) := by decide +kernel
theorem dL_law_422 : decode cL_law 422 = .ok (.invokevirtual 142, 3) := by decide +kernel
theorem dL_law_425 : decode cL_law 425 = .ok (.istore 6, 2) := by decide +kernel
theorem dL_law_427 : decode cL_law 427 = .ok (.goto 1264, 3) := by decide +kernel
theorem dL_law_430 : decode cL_law 430 = .ok (.aload_n 1, 1) := by decide +kernel
theorem dL_law_431 : decode cL_law 431 = .ok (.aload_n 0, 1) := by decide +kernel
theorem dL_law_432 : decode cL_law 432 = .ok (.iload 4, 2) := by decide +kernel
theorem dL_law_434 : decode cL_law 434 = .ok (.iconst 1, 1) := by decide +kernel
theorem dL_law_435 : decode cL_law 435 = .ok (.iadd, 1) := by decide +kernel
theorem dL_law_436 : decode cL_law 436 = .ok (.iaload, 1) := by decide +kernel
theorem dL_law_437 : decode cL_law 437 = .ok (.aload_n 0, 1) := by decide +kernel
theorem dL_law_438 : decode cL_law 438 = .ok (.iload 4, 2) := by decide +kernel
theorem dL_law_440 : decode cL_law 440 = .ok (.iconst 2, 1) := by decide +kernel
theorem dL_law_441 : decode cL_law 441 = .ok (.iadd, 1) := by decide +kernel
theorem dL_law_442 : decode cL_law 442 = .ok (.iaload, 1) := by decide +kernel
theorem dL_law_443 : decode cL_law 443 = .ok (.aload_n 3, 1) := by decide +kernel
theorem dL_law_444 : decode cL_law 444 = .ok (.invokestatic 143, 3) := by decide +kernel
theorem dL_law_447 : decode cL_law 447 = .ok (.istore 5, 2) := by decide +kernel
theorem dL_law_449 : decode cL_law 449 = .ok (.aload_n 2, 1) := by decide +kernel
theorem dL_law_450 : decode cL_law 450 = .ok (.aload_n 0, 1) := by decide +kernel
theorem dL_law_451 : decode cL_law 451 = .ok (.iload 4, 2) := by decide +kernel
theorem dL_law_453 : decode cL_law 453 = .ok (.iconst 1, 1) := by decide +kernel
theorem dL_law_454 : decode cL_law 454 = .ok (.iadd, 1) := by decide +kernel
theorem dL_law_455 : decode cL_law 455 = .ok (.iaload, 1) := by decide +kernel
theorem dL_law_456 : decode cL_law 456 = .ok (.aload_n 0, 1) := by decide +kernel
theorem dL_law_457 : decode cL_law 457 = .ok (.iload 4, 2) := by decide +kernel
theorem dL_law_459 : decode cL_law 459 = .ok (.iconst 2, 1) := by decide +kernel
theorem dL_law_460 : decode cL_law 460 = .ok (.iadd, 1) := by decide +kernel
theorem dL_law_461 : decode cL_law 461 = .ok (.iaload, 1) := by decide +kernel
theorem dL_law_462 : decode cL_law 462 = .ok (.invokevirtual 145, 3) := by decide +kernel
theorem dL_law_465 : decode cL_law 465 = .ok (.istore 6, 2) := by decide +kernel
theorem dL_law_467 : decode cL_law 467 = .ok (.goto 1224, 3) := by decide +kernel
theorem dL_law_470 : decode cL_law 470 = .ok (.aload_n 1, 1) := by decide +kernel
theorem dL_law_471 : decode cL_law 471 = .ok (.aload_n 0, 1) := by decide +kernel
theorem dL_law_472 : decode cL_law 472 = .ok (.iload 4, 2) := by decide +kernel
theorem dL_law_474 : decode cL_law 474 = .ok (.iconst 1, 1) := by decide +kernel
theorem dL_law_475 : decode cL_law 475 = .ok (.iadd, 1) := by decide +kernel
theorem dL_law_476 : decode cL_law 476 = .ok (.iaload, 1) := by decide +kernel
theorem dL_law_477 : decode cL_law 477 = .ok (.aload_n 0, 1) := by decide +kernel
theorem dL_law_478 : decode cL_law 478 = .ok (.iload 4, 2) := by decide +kernel
theorem dL_law_480 : decode cL_law 480 = .ok (.iconst 2, 1) := by decide +kernel
theorem dL_law_481 : decode cL_law 481 = .ok (.iadd, 1) := by decide +kernel
theorem dL_law_482 : decode cL_law 482 = .ok (.iaload, 1) := by decide +kernel
theorem dL_law_483 : decode cL_law 483 = .ok (.aload_n 0, 1) := by decide +kernel
theorem dL_law_484 : decode cL_law 484 = .ok (.iload 4, 2) := by decide +kernel
theorem dL_law_486 : decode cL_law 486 = .ok (.iconst 3, 1) := by decide +kernel
theorem dL_law_487 : decode cL_law 487 = .ok (.iadd, 1) := by decide +kernel
theorem dL_law_488 : decode cL_law 488 = .ok (.iaload, 1) := by decide +kernel
theorem dL_law_489 : decode cL_law 489 = .ok (.ifCond .eq 7, 3) := by decide +kernel
theorem dL_law_492 : decode cL_law 492 = .ok (.iconst 1, 1) := by decide +kernel
theorem dL_law_493 : decode cL_law 493 = .ok (.goto 4, 3) := by decide +kernel
theorem dL_law_496 : decode cL_law 496 = .ok (.iconst 0, 1) := by decide +kernel
theorem dL_law_497 : decode cL_law 497 = .ok (.aload_n 3, 1) := by decide +kernel
theorem dL_law_498 : decode cL_law 498 = .ok (.invokestatic 146, 3) := by decide +kernel
theorem dL_law_501 : decode cL_law 501 = .ok (.istore 5, 2) := by decide +kernel
theorem dL_law_503 : decode cL_law 503 = .ok (.aload_n 2, 1) := by decide +kernel
theorem dL_law_504 : decode cL_law 504 = .ok (.aload_n 0, 1) := by decide +kernel
theorem dL_law_505 : decode cL_law 505 = .ok (.iload 4, 2) := by decide +kernel
theorem dL_law_507 : decode cL_law 507 = .ok (.iconst 1, 1) := by decide +kernel
theorem dL_law_508 : decode cL_law 508 = .ok (.iadd, 1) := by decide +kernel
theorem dL_law_509 : decode cL_law 509 = .ok (.iaload, 1) := by decide +kernel
theorem dL_law_510 : decode cL_law 510 = .ok (.aload_n 0, 1) := by decide +kernel
theorem dL_law_511 : decode cL_law 511 = .ok (.iload 4, 2) := by decide +kernel
theorem dL_law_513 : decode cL_law 513 = .ok (.iconst 2, 1) := by decide +kernel
theorem dL_law_514 : decode cL_law 514 = .ok (.iadd, 1) := by decide +kernel
theorem dL_law_515 : decode cL_law 515 = .ok (.iaload, 1) := by decide +kernel
theorem dL_law_516 : decode cL_law 516 = .ok (.aload_n 0, 1) := by decide +kernel
theorem dL_law_517 : decode cL_law 517 = .ok (.iload 4, 2) := by decide +kernel
theorem dL_law_519 : decode cL_law 519 = .ok (.iconst 3, 1) := by decide +kernel
theorem dL_law_520 : decode cL_law 520 = .ok (.iadd, 1) := by decide +kernel
theorem dL_law_521 : decode cL_law 521 = .ok (.iaload, 1) := by decide +kernel
theorem dL_law_522 : decode cL_law 522 = .ok (.ifCond .eq 7, 3) := by decide +kernel
theorem dL_law_525 : decode cL_law 525 = .ok (.iconst 1, 1) := by decide +kernel
theorem dL_law_526 : decode cL_law 526 = .ok (.goto 4, 3) := by decide +kernel
theorem dL_law_529 : decode cL_law 529 = .ok (.iconst 0, 1) := by decide +kernel
theorem dL_law_530 : decode cL_law 530 = .ok (.invokevirtual 149, 3) := by decide +kernel
theorem dL_law_533 : decode cL_law 533 = .ok (.istore 6, 2) := by decide +kernel
theorem dL_law_535 : decode cL_law 535 = .ok (.goto 1156, 3) := by decide +kernel
theorem dL_law_538 : decode cL_law 538 = .ok (.aload_n 1, 1) := by decide +kernel
theorem dL_law_539 : decode cL_law 539 = .ok (.invokevirtual 150, 3) := by decide +kernel
theorem dL_law_542 : decode cL_law 542 = .ok (.pop, 1) := by decide +kernel
theorem dL_law_543 : decode cL_law 543 = .ok (.aload_n 2, 1) := by decide +kernel
theorem dL_law_544 : decode cL_law 544 = .ok (.invokevirtual 153, 3) := by decide +kernel
theorem dL_law_547 : decode cL_law 547 = .ok (.pop, 1) := by decide +kernel
theorem dL_law_548 : decode cL_law 548 = .ok (.goto 1143, 3) := by decide +kernel
theorem dL_law_551 : decode cL_law 551 = .ok (.aload_n 1, 1) := by decide +kernel
theorem dL_law_552 : decode cL_law 552 = .ok (.invokevirtual 154, 3) := by decide +kernel
theorem dL_law_555 : decode cL_law 555 = .ok (.pop, 1) := by decide +kernel
theorem dL_law_556 : decode cL_law 556 = .ok (.aload_n 2, 1) := by decide +kernel
theorem dL_law_557 : decode cL_law 557 = .ok (.invokevirtual 157, 3) := by decide +kernel
theorem dL_law_560 : decode cL_law 560 = .ok (.pop, 1) := by decide +kernel
theorem dL_law_561 : decode cL_law 561 = .ok (.goto 1130, 3) := by decide +kernel
theorem dL_law_564 : decode cL_law 564 = .ok (.aload_n 1, 1) := by decide +kernel
theorem dL_law_565 : decode cL_law 565 = .ok (.aload_n 0, 1) := by decide +kernel
theorem dL_law_566 : decode cL_law 566 = .ok (.iload 4, 2) := by decide +kernel
theorem dL_law_568 : decode cL_law 568 = .ok (.iconst 1, 1) := by decide +kernel
theorem dL_law_569 : decode cL_law 569 = .ok (.iadd, 1) := by decide +kernel
theorem dL_law_570 : decode cL_law 570 = .ok (.iaload, 1) := by decide +kernel
theorem dL_law_571 : decode cL_law 571 = .ok (.aload_n 0, 1) := by decide +kernel
theorem dL_law_572 : decode cL_law 572 = .ok (.iload 4, 2) := by decide +kernel
theorem dL_law_574 : decode cL_law 574 = .ok (.iconst 2, 1) := by decide +kernel
theorem dL_law_575 : decode cL_law 575 = .ok (.iadd, 1) := by decide +kernel
theorem dL_law_576 : decode cL_law 576 = .ok (.iaload, 1) := by decide +kernel
theorem dL_law_577 : decode cL_law 577 = .ok (.aload_n 3, 1) := by decide +kernel
theorem dL_law_578 : decode cL_law 578 = .ok (.invokestatic 158, 3) := by decide +kernel
theorem dL_law_581 : decode cL_law 581 = .ok (.istore 5, 2) := by decide +kernel
theorem dL_law_583 : decode cL_law 583 = .ok (.aload_n 2, 1) := by decide +kernel
theorem dL_law_584 : decode cL_law 584 = .ok (.aload_n 0, 1) := by decide +kernel
theorem dL_law_585 : decode cL_law 585 = .ok (.iload 4, 2) := by decide +kernel
theorem dL_law_587 : decode cL_law 587 = .ok (.iconst 1, 1) := by decide +kernel
theorem dL_law_588 : decode cL_law 588 = .ok (.iadd, 1) := by decide +kernel
theorem dL_law_589 : decode cL_law 589 = .ok (.iaload, 1) := by decide +kernel
theorem dL_law_590 : decode cL_law 590 = .ok (.aload_n 0, 1) := by decide +kernel
theorem dL_law_591 : decode cL_law 591 = .ok (.iload 4, 2) := by decide +kernel
theorem dL_law_593 : decode cL_law 593 = .ok (.iconst 2, 1) := by decide +kernel
theorem dL_law_594 : decode cL_law 594 = .ok (.iadd, 1) := by decide +kernel
theorem dL_law_595 : decode cL_law 595 = .ok (.iaload, 1) := by decide +kernel
theorem dL_law_596 : decode cL_law 596 = .ok (.invokevirtual 160, 3) := by decide +kernel
theorem dL_law_599 : decode cL_law 599 = .ok (.istore 6, 2) := by decide +kernel
theorem dL_law_601 : decode cL_law 601 = .ok (.goto 1090, 3) := by decide +kernel
theorem dL_law_604 : decode cL_law 604 = .ok (.aload_n 1, 1) := by decide +kernel
theorem dL_law_605 : decode cL_law 605 = .ok (.aload_n 0, 1) := by decide +kernel
theorem dL_law_606 : decode cL_law 606 = .ok (.iload 4, 2) := by decide +kernel
theorem dL_law_608 : decode cL_law 608 = .ok (.iconst 1, 1) := by decide +kernel
theorem dL_law_609 : decode cL_law 609 = .ok (.iadd, 1) := by decide +kernel
theorem dL_law_610 : decode cL_law 610 = .ok (.iaload, 1) := by decide +kernel
theorem dL_law_611 : decode cL_law 611 = .ok (.aload_n 0, 1) := by decide +kernel
theorem dL_law_612 : decode cL_law 612 = .ok (.iload 4, 2) := by decide +kernel
theorem dL_law_614 : decode cL_law 614 = .ok (.iconst 2, 1) := by decide +kernel
theorem dL_law_615 : decode cL_law 615 = .ok (.iadd, 1) := by decide +kernel
theorem dL_law_616 : decode cL_law 616 = .ok (.iaload, 1) := by decide +kernel
theorem dL_law_617 : decode cL_law 617 = .ok (.invokevirtual 161, 3) := by decide +kernel
theorem dL_law_620 : decode cL_law 620 = .ok (.pop, 1) := by decide +kernel
theorem dL_law_621 : decode cL_law 621 = .ok (.aload_n 2, 1) := by decide +kernel
theorem dL_law_622 : decode cL_law 622 = .ok (.aload_n 0, 1) := by decide +kernel
theorem dL_law_623 : decode cL_law 623 = .ok (.iload 4, 2) := by decide +kernel
theorem dL_law_625 : decode cL_law 625 = .ok (.iconst 1, 1) := by decide +kernel
theorem dL_law_626 : decode cL_law 626 = .ok (.iadd, 1) := by decide +kernel
theorem dL_law_627 : decode cL_law 627 = .ok (.iaload, 1) := by decide +kernel
theorem dL_law_628 : decode cL_law 628 = .ok (.aload_n 0, 1) := by decide +kernel
theorem dL_law_629 : decode cL_law 629 = .ok (.iload 4, 2) := by decide +kernel
theorem dL_law_631 : decode cL_law 631 = .ok (.iconst 2, 1) := by decide +kernel
theorem dL_law_632 : decode cL_law 632 = .ok (.iadd, 1) := by decide +kernel
theorem dL_law_633 : decode cL_law 633 = .ok (.iaload, 1) := by decide +kernel
theorem dL_law_634 : decode cL_law 634 = .ok (.invokevirtual 164, 3) := by decide +kernel
theorem dL_law_637 : decode cL_law 637 = .ok (.pop, 1) := by decide +kernel
theorem dL_law_638 : decode cL_law 638 = .ok (.goto 1053, 3) := by decide +kernel
theorem dL_law_641 : decode cL_law 641 = .ok (.aload_n 1, 1) := by decide +kernel
theorem dL_law_642 : decode cL_law 642 = .ok (.aload_n 0, 1) := by decide +kernel
theorem dL_law_643 : decode cL_law 643 = .ok (.iload 4, 2) := by decide +kernel
theorem dL_law_645 : decode cL_law 645 = .ok (.iconst 1, 1) := by decide +kernel
theorem dL_law_646 : decode cL_law 646 = .ok (.iadd, 1) := by decide +kernel
theorem dL_law_647 : decode cL_law 647 = .ok (.iaload, 1) := by decide +kernel
theorem dL_law_648 : decode cL_law 648 = .ok (.aload_n 0, 1) := by decide +kernel
theorem dL_law_649 : decode cL_law 649 = .ok (.iload 4, 2) := by decide +kernel
theorem dL_law_651 : decode cL_law 651 = .ok (.iconst 2, 1) := by decide +kernel
theorem dL_law_652 : decode cL_law 652 = .ok (.iadd, 1) := by decide +kernel
theorem dL_law_653 : decode cL_law 653 = .ok (.iaload, 1) := by decide +kernel
theorem dL_law_654 : decode cL_law 654 = .ok (.invokevirtual 165, 3) := by decide +kernel
theorem dL_law_657 : decode cL_law 657 = .ok (.pop, 1) := by decide +kernel
theorem dL_law_658 : decode cL_law 658 = .ok (.aload_n 2, 1) := by decide +kernel
theorem dL_law_659 : decode cL_law 659 = .ok (.aload_n 0, 1) := by decide +kernel
theorem dL_law_660 : decode cL_law 660 = .ok (.iload 4, 2) := by decide +kernel
theorem dL_law_662 : decode cL_law 662 = .ok (.iconst 1, 1) := by decide +kernel
theorem dL_law_663 : decode cL_law 663 = .ok (.iadd, 1) := by decide +kernel
theorem dL_law_664 : decode cL_law 664 = .ok (.iaload, 1) := by decide +kernel
theorem dL_law_665 : decode cL_law 665 = .ok (.aload_n 0, 1) := by decide +kernel
theorem dL_law_666 : decode cL_law 666 = .ok (.iload 4, 2) := by decide +kernel
theorem dL_law_668 : decode cL_law 668 = .ok (.iconst 2, 1) := by decide +kernel
theorem dL_law_669 : decode cL_law 669 = .ok (.iadd, 1) := by decide +kernel
theorem dL_law_670 : decode cL_law 670 = .ok (.iaload, 1) := by decide +kernel
theorem dL_law_671 : decode cL_law 671 = .ok (.invokevirtual 168, 3) := by decide +kernel
theorem dL_law_674 : decode cL_law 674 = .ok (.pop, 1) := by decide +kernel
theorem dL_law_675 : decode cL_law 675 = .ok (.goto 1016, 3) := by decide +kernel
theorem dL_law_678 : decode cL_law 678 = .ok (.aload_n 1, 1) := by decide +kernel
theorem dL_law_679 : decode cL_law 679 = .ok (.aload_n 0, 1) := by decide +kernel
theorem dL_law_680 : decode cL_law 680 = .ok (.iload 4, 2) := by decide +kernel
theorem dL_law_682 : decode cL_law 682 = .ok (.iconst 1, 1) := by decide +kernel
theorem dL_law_683 : decode cL_law 683 = .ok (.iadd, 1) := by decide +kernel
theorem dL_law_684 : decode cL_law 684 = .ok (.iaload, 1) := by decide +kernel
theorem dL_law_685 : decode cL_law 685 = .ok (.aload_n 3, 1) := by decide +kernel
theorem dL_law_686 : decode cL_law 686 = .ok (.invokestatic 169, 3) := by decide +kernel
theorem dL_law_689 : decode cL_law 689 = .ok (.istore 5, 2) := by decide +kernel
theorem dL_law_691 : decode cL_law 691 = .ok (.aload_n 2, 1) := by decide +kernel
theorem dL_law_692 : decode cL_law 692 = .ok (.aload_n 0, 1) := by decide +kernel
theorem dL_law_693 : decode cL_law 693 = .ok (.iload 4, 2) := by decide +kernel
theorem dL_law_695 : decode cL_law 695 = .ok (.iconst 1, 1) := by decide +kernel
theorem dL_law_696 : decode cL_law 696 = .ok (.iadd, 1) := by decide +kernel
theorem dL_law_697 : decode cL_law 697 = .ok (.iaload, 1) := by decide +kernel
theorem dL_law_698 : decode cL_law 698 = .ok (.invokevirtual 171, 3) := by decide +kernel
theorem dL_law_701 : decode cL_law 701 = .ok (.istore 6, 2) := by decide +kernel
theorem dL_law_703 : decode cL_law 703 = .ok (.goto 988, 3) := by decide +kernel
theorem dL_law_706 : decode cL_law 706 = .ok (.aload_n 1, 1) := by decide +kernel
theorem dL_law_707 : decode cL_law 707 = .ok (.aload_n 0, 1) := by decide +kernel
theorem dL_law_708 : decode cL_law 708 = .ok (.iload 4, 2) := by decide +kernel
theorem dL_law_710 : decode cL_law 710 = .ok (.iconst 1, 1) := by decide +kernel
theorem dL_law_711 : decode cL_law 711 = .ok (.iadd, 1) := by decide +kernel
theorem dL_law_712 : decode cL_law 712 = .ok (.iaload, 1) := by decide +kernel
theorem dL_law_713 : decode cL_law 713 = .ok (.aload_n 3, 1) := by decide +kernel
theorem dL_law_714 : decode cL_law 714 = .ok (.invokestatic 172, 3) := by decide +kernel
theorem dL_law_717 : decode cL_law 717 = .ok (.istore 5, 2) := by decide +kernel
theorem dL_law_719 : decode cL_law 719 = .ok (.aload_n 2, 1) := by decide +kernel
theorem dL_law_720 : decode cL_law 720 = .ok (.aload_n 0, 1) := by decide +kernel
theorem dL_law_721 : decode cL_law 721 = .ok (.iload 4, 2) := by decide +kernel
theorem dL_law_723 : decode cL_law 723 = .ok (.iconst 1, 1) := by decide +kernel
theorem dL_law_724 : decode cL_law 724 = .ok (.iadd, 1) := by decide +kernel
theorem dL_law_725 : decode cL_law 725 = .ok (.iaload, 1) := by decide +kernel
theorem dL_law_726 : decode cL_law 726 = .ok (.invokevirtual 174, 3) := by decide +kernel
theorem dL_law_729 : decode cL_law 729 = .ok (.istore 6, 2) := by decide +kernel
theorem dL_law_731 : decode cL_law 731 = .ok (.goto 960, 3) := by decide +kernel
set_option maxRecDepth 4000 in
theorem law_c0 {p : Program} {l : Launch} {e : Env} {s : State} {m : MethodId} {below : List Frame} {meth : Method} {c : Code} {b L : Nat} {xs : Nat → Int32} {D : va_G} {cy : Nat → ClassId} {ad : Nat → Nat} {A : Nat → Prop} (hlT : l.stackTraces = false) (F : FxM D cy ad p m c cL_law 8 s #[Value.ref b] RL A) (hX : va_X b L xs s s.heap) (hbl : b < s.heap.size) (hbA : ¬ A b) (hL : L ≤ 3072) (y : Int) (hy0 : 0 ≤ y) (hy1 : y + 6 ≤ (L : Int)) (nk sk : Nat) (hnk : nk ≤ 9000 ∧ sk ≤ 90000) (M : Mem) (hJ : Iw M) (hR : RlD M ∧ RlG M) (ih : ∀ M' : Mem, Iw M' → (RlD M' ∧ RlG M') → Z D cy ad p l e room_1 s m #[Value.ref b] below meth c A 8 (nk + 6) (sk + 36) (lw_Z below #[Value.ref b] s) 23 [(4, ii (y + 6)), (0, .ref b), (1, .ref (ad 0)), (2, .ref (ad 131)), (3, .ref (ad 151))] [] M') : Z D cy ad p l e room_1 s m #[Value.ref b] below meth c A 8 nk sk (lw_Z below #[Value.ref b] s) 224 [(4, ii y), (0, .ref b), (1, .ref (ad 0)), (2, .ref (ad 131)), (3, .ref (ad 151))] [] M := by
  obtain ⟨hI, hW⟩ := hJ
  have hRT := hR.1.1
  have hRS := hR.1.2
  have hRG := hR.2
  refine z_aload_n F dL_law_224 rfl (q := 2) rfl ?_
  refine z_aload_n F dL_law_225 rfl (q := 1) rfl ?_
  refine z_iload F dL_law_226 (q := 0) rfl ?_
  refine z_iconst F dL_law_228 ?_
  refine z_iadd F dL_law_229 ?_
  refine z_sld F hX hbl hbA hL (by omega) (by omega) dL_law_230 (fun v1 ev1 rv1 => ?_)
  refine z_aload_n F dL_law_231 rfl (q := 1) rfl ?_
  refine z_iload F dL_law_232 (q := 0) rfl ?_
  refine z_iconst F dL_law_234 ?_
  refine z_iadd F dL_law_235 ?_
  refine z_sld F hX hbl hbA hL (by omega) (by omega) dL_law_236 (fun v2 ev2 rv2 => ?_)
  refine z_aload_n F dL_law_237 rfl (q := 1) rfl ?_
  refine z_iload F dL_law_238 (q := 0) rfl ?_
  refine z_iconst F dL_law_240 ?_
  refine z_iadd F dL_law_241 ?_
  refine z_sld F hX hbl hbA hL (by omega) (by omega) dL_law_242 (fun v3 ev3 rv3 => ?_)
  refine z_aload_n F dL_law_243 rfl (q := 1) rfl ?_
  refine z_iload F dL_law_244 (q := 0) rfl ?_
  refine z_iconst F dL_law_246 ?_
  refine z_iadd F dL_law_247 ?_
  refine z_sld F hX hbl hbA hL (by omega) (by omega) dL_law_248 (fun v4 ev4 rv4 => ?_)
  refine z_aload_n F dL_law_249 rfl (q := 1) rfl ?_
  refine z_iload F dL_law_250 (q := 0) rfl ?_
  refine z_iconst F dL_law_252 ?_
  refine z_iadd F dL_law_253 ?_
  refine z_sld F hX hbl hbA hL (by omega) (by omega) dL_law_254 (fun v5 ev5 rv5 => ?_)
  have hIp := hI
  refine zl_i (rest := []) F (k_X11_feed l M ⟨hI, hW⟩ v1 (by omega) (by omega) v2 (by omega) (by omega) v3 (by omega) (by omega) v4 (by omega) (by omega) v5 (by omega) (by omega)) cs_L_121 (T := TX11) (N := 14) (ci := 11) rfl gs_0 ⟨Nat.le_of_ble_eq_true rfl, Nat.le_of_ble_eq_true rfl⟩ ⟨show _ ≤ 601024 by omega, show _ ≤ 7293034 by omega⟩ rfl rfl rfl (Nat.le_of_ble_eq_true rfl) dL_law_255 (fun v6 M7 rv6 hI p8 => ?_)
  obtain ⟨hI, hW⟩ := hI
  obtain ⟨⟨av6, bv6⟩, fp8, xp8, yp8⟩ := p8
  have tM7_131_6 : M7 131 6 = M 131 6 := fp8.at (by decide)
  have hRG : RlG M7 := rg_fr hIp fp8 (by unfold No5; decide) (by unfold NoI No5; decide) (by unfold NoG; decide) hRG
  have hRT0 := hRT
  have hRS : RlS M7 := rs_fr hIp fp8 (by decide) (by decide) (by decide) (by unfold No5; decide) (by unfold NoI No5; decide) hRS
  refine z_pop F dL_law_258 rfl ?_
  refine z_aload_n F dL_law_259 rfl (q := 3) rfl ?_
  refine z_aload_n F dL_law_260 rfl (q := 1) rfl ?_
  refine z_iload F dL_law_261 (q := 0) rfl ?_
  refine z_iconst F dL_law_263 ?_
  refine z_iadd F dL_law_264 ?_
  refine z_sld F hX hbl hbA hL (by omega) (by omega) dL_law_265 (fun v9 ev9 rv9 => ?_)
  have zv9 : v1 = v9 := ev1.trans ev9.symm
  subst zv9
  refine z_aload_n F dL_law_266 rfl (q := 1) rfl ?_
  refine z_iload F dL_law_267 (q := 0) rfl ?_
  refine z_iconst F dL_law_269 ?_
  refine z_iadd F dL_law_270 ?_
  refine z_sld F hX hbl hbA hL (by omega) (by omega) dL_law_271 (fun v10 ev10 rv10 => ?_)
  have zv10 : v2 = v10 := ev2.trans ev10.symm
  subst zv10
  refine z_aload_n F dL_law_272 rfl (q := 1) rfl ?_
  refine z_iload F dL_law_273 (q := 0) rfl ?_
  refine z_iconst F dL_law_275 ?_
  refine z_iadd F dL_law_276 ?_
  refine z_sld F hX hbl hbA hL (by omega) (by omega) dL_law_277 (fun v11 ev11 rv11 => ?_)
  have zv11 : v3 = v11 := ev3.trans ev11.symm
  subst zv11
  refine z_aload_n F dL_law_278 rfl (q := 1) rfl ?_
  refine z_iload F dL_law_279 (q := 0) rfl ?_
  refine z_iconst F dL_law_281 ?_
  refine z_iadd F dL_law_282 ?_
  refine z_sld F hX hbl hbA hL (by omega) (by omega) dL_law_283 (fun v12 ev12 rv12 => ?_)
  have zv12 : v4 = v12 := ev4.trans ev12.symm
  subst zv12
  refine z_aload_n F dL_law_284 rfl (q := 1) rfl ?_
  refine z_iload F dL_law_285 (q := 0) rfl ?_
  refine z_iconst F dL_law_287 ?_
  refine z_iadd F dL_law_288 ?_
  refine z_sld F hX hbl hbA hL (by omega) (by omega) dL_law_289 (fun v13 ev13 rv13 => ?_)
  have zv13 : v5 = v13 := ev5.trans ev13.symm
  subst zv13
  have hIp := hI
  refine zl_i (rest := []) F (k_X12_feed l M7 ⟨hI, hW⟩ v1 (by omega) (by omega) v2 (by omega) (by omega) v3 (by omega) (by omega) v4 (by omega) (by omega) v5 (by omega) (by omega)) cs_L_125 (T := TX12) (N := 44) (ci := 12) rfl gs_131 ⟨Nat.le_of_ble_eq_true rfl, Nat.le_of_ble_eq_true rfl⟩ ⟨show _ ≤ 601024 by omega, show _ ≤ 7293034 by omega⟩ rfl rfl rfl (Nat.le_of_ble_eq_true rfl) dL_law_290 (fun v14 M15 rv14 hI p16 => ?_)
  obtain ⟨hI, hW⟩ := hI
  obtain ⟨⟨av14, bv14⟩, fp16, xp16, yp16⟩ := p16
  have tM15_0_1 : M15 0 1 = M7 0 1 := fp16.at (by decide)
  have hRG : RlG M15 := rg_fr hIp fp16 (by unfold No5; decide) (by unfold NoI No5; decide) (by unfold NoG; decide) hRG
  have hRT : RlT M15 := rl_feed hRT0 (by omega) yp8.1 yp8.2 (fp8.at (by decide)) (fun j => fp8.at (by decide)) (by omega) yp16.1 yp16.2 (fp16.at (by decide)) (fun j => fp16.at (by decide))
  have hRS : RlS M15 := rs_fr hIp fp16 (by decide) (by decide) (by decide) (by unfold No5; decide) (by unfold NoI No5; decide) hRS
  refine z_pop F dL_law_293 rfl ?_
  refine z_goto (tgt := 1691) F dL_law_294 (by decide +kernel) ?_
  refine z_iincN F dL_law_1691 (q := 0) rfl (by decide) (fun w e => ?_)
  subst e
  refine z_eq (ls' := [(4, ii (y + 6)), (0, .ref b), (1, .ref (ad 0)), (2, .ref (ad 131)), (3, .ref (ad 151))]) rfl rfl rfl ?_
  refine z_goto (tgt := 23) F dL_law_1694 (by decide +kernel) ?_
  refine z_loc [0, 1, 2, 3, 4] (ls' := [(4, ii (y + 6)), (0, .ref b), (1, .ref (ad 0)), (2, .ref (ad 131)), (3, .ref (ad 151))]) rfl ?_
  refine z_wide (n1 := nk + 6) (s1 := sk + 36) (by omega) (by omega) ?_
  exact ih _ ⟨hI, hW⟩ ⟨⟨hRT, hRS⟩, hRG⟩
set_option maxRecDepth 4000 in
theorem law_c1 {p : Program} {l : Launch} {e : Env} {s : State} {m : MethodId} {below : List Frame} {meth : Method} {c : Code} {b L : Nat} {xs : Nat → Int32} {D : va_G} {cy : Nat → ClassId} {ad : Nat → Nat} {A : Nat → Prop} (hlT : l.stackTraces = false) (F : FxM D cy ad p m c cL_law 8 s #[Value.ref b] RL A) (hX : va_X b L xs s s.heap) (hbl : b < s.heap.size) (hbA : ¬ A b) (hL : L ≤ 3072) (y : Int) (hy0 : 0 ≤ y) (hy1 : y + 6 ≤ (L : Int)) (nk sk : Nat) (hnk : nk ≤ 9000 ∧ sk ≤ 90000) (M : Mem) (hJ : Iw M) (hR : RlD M ∧ RlG M) (ih : ∀ M' : Mem, Iw M' → (RlD M' ∧ RlG M') → Z D cy ad p l e room_1 s m #[Value.ref b] below meth c A 8 (nk + 6) (sk + 36) (lw_Z below #[Value.ref b] s) 23 [(4, ii (y + 6)), (0, .ref b), (1, .ref (ad 0)), (2, .ref (ad 131)), (3, .ref (ad 151))] [] M') : Z D cy ad p l e room_1 s m #[Value.ref b] below meth c A 8 nk sk (lw_Z below #[Value.ref b] s) 297 [(4, ii y), (0, .ref b), (1, .ref (ad 0)), (2, .ref (ad 131)), (3, .ref (ad 151))] [] M := by
  obtain ⟨hI, hW⟩ := hJ
  have hRT := hR.1.1
  have hRS := hR.1.2
  have hRG := hR.2
  refine z_aload_n F dL_law_297 rfl (q := 2) rfl ?_
  refine z_aload_n F dL_law_298 rfl (q := 1) rfl ?_
  refine z_iload F dL_law_299 (q := 0) rfl ?_
  refine z_iconst F dL_law_301 ?_
  refine z_iadd F dL_law_302 ?_
  refine z_sld F hX hbl hbA hL (by omega) (by omega) dL_law_303 (fun v1 ev1 rv1 => ?_)
  refine z_aload_n F dL_law_304 rfl (q := 4) rfl ?_
  have hIp := hI
  refine zh_i (rest := []) F (k_L_town l hlT M ⟨hI, hW⟩ v1 (by omega) (by omega)) cs_L_126 ⟨Nat.le_of_ble_eq_true rfl, Nat.le_of_ble_eq_true rfl⟩ ⟨show _ ≤ 601024 by omega, show _ ≤ 7293034 by omega⟩ rfl rfl rfl (Nat.le_of_ble_eq_true rfl) dL_law_305 (fun v2 M3 rv2 hI p4 => ?_)
  obtain ⟨hI, hW⟩ := hI
  obtain ⟨fp4, xp4⟩ := p4
  have tM3_131_6 : M3 131 6 = M 131 6 := fp4.at (by decide)
  have hRG : RlG M3 := rg_tw (T := townF (UTC M v1) v1) hIp fp4 (by unfold NoI No5; decide) ⟨by decide, by decide, by decide⟩ (xp4.elim (fun q => Or.inl q.2.2.2.2) (fun q => Or.inr q.2.2)) hRG
  refine z_istore F dL_law_308 (by decide) (ls' := [(5, ii v2), (4, ii y), (0, .ref b), (1, .ref (ad 0)), (2, .ref (ad 131)), (3, .ref (ad 151))]) rfl ?_
  refine z_aload_n F dL_law_310 rfl (q := 4) rfl ?_
  refine z_aload_n F dL_law_311 rfl (q := 2) rfl ?_
  refine z_iload F dL_law_312 (q := 1) rfl ?_
  refine z_iconst F dL_law_314 ?_
  refine z_iadd F dL_law_315 ?_
  refine z_sld F hX hbl hbA hL (by omega) (by omega) dL_law_316 (fun v5 ev5 rv5 => ?_)
  have zv5 : v1 = v5 := ev1.trans ev5.symm
  subst zv5
  have hIp := hI
  refine zl_i (rest := []) F (kp_X12_town l M3 ⟨hI, hW⟩ v1 (by omega) (by omega)) cs_L_131 (T := TX12) (N := 44) (ci := 12) rfl gs_131 ⟨Nat.le_of_ble_eq_true rfl, Nat.le_of_ble_eq_true rfl⟩ ⟨show _ ≤ 601024 by omega, show _ ≤ 7293034 by omega⟩ rfl rfl rfl (Nat.le_of_ble_eq_true rfl) dL_law_317 (fun v6 M7 rv6 hI p8 => ?_)
  obtain ⟨hI, hW⟩ := hI
  obtain ⟨⟨av6, bv6⟩, fp8, xp8, yp8⟩ := p8
  have tM7_0_1 : M7 0 1 = M3 0 1 := fp8.at (by decide)
  have hRG : RlG M7 := rg_fr hIp fp8 (by unfold No5; decide) (by unfold NoI No5; decide) (by unfold NoG; decide) hRG
  have hr1 := hRT.1
  have ut : v1 ≤ M 0 1 → UTR M3 v1 = UTC M v1 := fun q2 => (show UTR M3 v1 = UTR M v1 from by funext j; unfold UTR; rw [show M3 136 j = M 136 j from fp4.at (by decide)]).trans (utr_utc hRT q2)
  have hRS : RlS M7 := xp4.elim (fun q => rs_town (T := townF (UTC M v1) v1) hRS fp4 (by decide) ⟨(by unfold NoI No5; decide), by decide, by decide⟩ q.2.2.2.2.1 fp8 (by unfold No5; decide) (by unfold NoI No5; decide) ⟨by decide, by decide⟩ (by have h9 := yp8.2.1 ⟨q.2.1, by have h8 := q.2.2.1; omega⟩; rw [ut q.2.2.1] at h9; exact h9)) (fun q => rs_townx hRS (by rw [← q.2.2]; exact fp8) (by unfold No5; decide) (by unfold NoI No5; decide) ⟨by decide, by decide⟩ (by rw [← q.2.2]; exact yp8.2.2 (by have h8 := q.2.1; omega)))
  have hk2 : M3 0 1 = 0 ∨ M3 0 1 = M 0 1 ∧ (v1 < 0 ∨ M 0 1 < v1) := xp4.elim (fun q => Or.inl q.2.2.2.1) (fun q => Or.inr ⟨by rw [q.2.2], q.2.1⟩)
  have hk3 : M3 0 1 = 0 ∨ v1 < 0 ∨ M 0 1 < v1 := by omega
  have hk4 : M3 0 1 = 0 → M3 0 1 = M 0 1 ∨ (0 ≤ v1 ∧ v1 ≤ M 0 1) := fun _ => xp4.elim (fun q => Or.inr ⟨q.2.1, q.2.2.1⟩) (fun q => Or.inl (by rw [q.2.2]))
  have hRT : RlT M7 := ⟨by omega, fun j hj => by rw [show M7 1 j = M 1 j from (fp8.at (by decide) : M7 1 j = _).trans (fp4.at (by decide)), show M7 136 j = M 136 j from (fp8.at (by decide) : M7 136 j = _).trans (fp4.at (by decide))]; exact hRT.2 j (by omega)⟩
  refine z_istore F dL_law_320 (by decide) (ls' := [(6, ii v6), (5, ii v2), (4, ii y), (0, .ref b), (1, .ref (ad 0)), (2, .ref (ad 131)), (3, .ref (ad 151))]) rfl ?_
  refine z_goto (tgt := 1691) F dL_law_322 (by decide +kernel) ?_
  refine z_iincN F dL_law_1691 (q := 2) rfl (by decide) (fun w e => ?_)
  subst e
  refine z_eq (ls' := [(4, ii (y + 6)), (6, ii v6), (5, ii v2), (0, .ref b), (1, .ref (ad 0)), (2, .ref (ad 131)), (3, .ref (ad 151))]) rfl rfl rfl ?_
  refine z_goto (tgt := 23) F dL_law_1694 (by decide +kernel) ?_
  refine z_loc [0, 3, 4, 5, 6] (ls' := [(4, ii (y + 6)), (0, .ref b), (1, .ref (ad 0)), (2, .ref (ad 131)), (3, .ref (ad 151))]) rfl ?_
  refine z_wide (n1 := nk + 6) (s1 := sk + 36) (by omega) (by omega) ?_
  exact ih _ ⟨hI, hW⟩ ⟨⟨hRT, hRS⟩, hRG⟩
set_option maxRecDepth 4000 in
theorem law_c2 {p : Program} {l : Launch} {e : Env} {s : State} {m : MethodId} {below : List Frame} {meth : Method} {c : Code} {b L : Nat} {xs : Nat → Int32} {D : va_G} {cy : Nat → ClassId} {ad : Nat → Nat} {A : Nat → Prop} (hlT : l.stackTraces = false) (F : FxM D cy ad p m c cL_law 8 s #[Value.ref b] RL A) (hX : va_X b L xs s s.heap) (hbl : b < s.heap.size) (hbA : ¬ A b) (hL : L ≤ 3072) (y : Int) (hy0 : 0 ≤ y) (hy1 : y + 6 ≤ (L : Int)) (nk sk : Nat) (hnk : nk ≤ 9000 ∧ sk ≤ 90000) (M : Mem) (hJ : Iw M) (hR : RlD M ∧ RlG M) (ih : ∀ M' : Mem, Iw M' → (RlD M' ∧ RlG M') → Z D cy ad p l e room_1 s m #[Value.ref b] below meth c A 8 (nk + 6) (sk + 36) (lw_Z below #[Value.ref b] s) 23 [(4, ii (y + 6)), (0, .ref b), (1, .ref (ad 0)), (2, .ref (ad 131)), (3, .ref (ad 151))] [] M') : Z D cy ad p l e room_1 s m #[Value.ref b] below meth c A 8 nk sk (lw_Z below #[Value.ref b] s) 325 [(4, ii y), (0, .ref b), (1, .ref (ad 0)), (2, .ref (ad 131)), (3, .ref (ad 151))] [] M := by
  obtain ⟨hI, hW⟩ := hJ
  have hRT := hR.1.1
  have hRS := hR.1.2
  have hRG := hR.2
  refine z_aload_n F dL_law_325 rfl (q := 2) rfl ?_
  refine z_aload_n F dL_law_326 rfl (q := 1) rfl ?_
  refine z_iload F dL_law_327 (q := 0) rfl ?_
  refine z_iconst F dL_law_329 ?_
  refine z_iadd F dL_law_330 ?_
  refine z_sld F hX hbl hbA hL (by omega) (by omega) dL_law_331 (fun v1 ev1 rv1 => ?_)
  have hIp := hI
  refine zl_i (rest := []) F (k_X11_fault l M ⟨hI, hW⟩ v1 (by omega) (by omega)) cs_L_132 (T := TX11) (N := 14) (ci := 11) rfl gs_0 ⟨Nat.le_of_ble_eq_true rfl, Nat.le_of_ble_eq_true rfl⟩ ⟨show _ ≤ 601024 by omega, show _ ≤ 7293034 by omega⟩ rfl rfl rfl (Nat.le_of_ble_eq_true rfl) dL_law_332 (fun v2 M3 rv2 hI p4 => ?_)
  obtain ⟨hI, hW⟩ := hI
  obtain ⟨⟨av2, bv2⟩, rfl⟩ := p4
  refine z_pop F dL_law_335 rfl ?_
  refine z_aload_n F dL_law_336 rfl (q := 3) rfl ?_
  refine z_aload_n F dL_law_337 rfl (q := 1) rfl ?_
  refine z_iload F dL_law_338 (q := 0) rfl ?_
  refine z_iconst F dL_law_340 ?_
  refine z_iadd F dL_law_341 ?_
  refine z_sld F hX hbl hbA hL (by omega) (by omega) dL_law_342 (fun v5 ev5 rv5 => ?_)
  have zv5 : v1 = v5 := ev1.trans ev5.symm
  subst zv5
  have hIp := hI
  refine zl_i (rest := []) F (k_X12_fault l M ⟨hI, hW⟩ v1 (by omega) (by omega)) cs_L_135 (T := TX12) (N := 44) (ci := 12) rfl gs_131 ⟨Nat.le_of_ble_eq_true rfl, Nat.le_of_ble_eq_true rfl⟩ ⟨show _ ≤ 601024 by omega, show _ ≤ 7293034 by omega⟩ rfl rfl rfl (Nat.le_of_ble_eq_true rfl) dL_law_343 (fun v6 M7 rv6 hI p8 => ?_)
  obtain ⟨hI, hW⟩ := hI
  obtain ⟨⟨av6, bv6⟩, fp8⟩ := p8
  have tM7_0_1 : M7 0 1 = M 0 1 := fp8.at (by decide)
  have tM7_131_6 : M7 131 6 = M 131 6 := fp8.t6 (by decide)
  have hRG : RlG M7 := rg_fr hIp fp8 (by unfold No5; decide) (by unfold NoI No5; decide) (by unfold NoG; decide) hRG
  have hRT : RlT M7 := rl_fr fp8 (by decide) hRT
  have hRS : RlS M7 := rs_fr hIp fp8 (by decide) (by decide) (by decide) (by unfold No5; decide) (by unfold NoI No5; decide) hRS
  refine z_pop F dL_law_346 rfl ?_
  refine z_goto (tgt := 1691) F dL_law_347 (by decide +kernel) ?_
  refine z_iincN F dL_law_1691 (q := 0) rfl (by decide) (fun w e => ?_)
  subst e
  refine z_eq (ls' := [(4, ii (y + 6)), (0, .ref b), (1, .ref (ad 0)), (2, .ref (ad 131)), (3, .ref (ad 151))]) rfl rfl rfl ?_
  refine z_goto (tgt := 23) F dL_law_1694 (by decide +kernel) ?_
  refine z_loc [0, 1, 2, 3, 4] (ls' := [(4, ii (y + 6)), (0, .ref b), (1, .ref (ad 0)), (2, .ref (ad 131)), (3, .ref (ad 151))]) rfl ?_
  refine z_wide (n1 := nk + 6) (s1 := sk + 36) (by omega) (by omega) ?_
  exact ih _ ⟨hI, hW⟩ ⟨⟨hRT, hRS⟩, hRG⟩
set_option maxRecDepth 4000 in
theorem law_c3 {p : Program} {l : Launch} {e : Env} {s : State} {m : MethodId} {below : List Frame} {meth : Method} {c : Code} {b L : Nat} {xs : Nat → Int32} {D : va_G} {cy : Nat → ClassId} {ad : Nat → Nat} {A : Nat → Prop} (hlT : l.stackTraces = false) (F : FxM D cy ad p m c cL_law 8 s #[Value.ref b] RL A) (hX : va_X b L xs s s.heap) (hbl : b < s.heap.size) (hbA : ¬ A b) (hL : L ≤ 3072) (y : Int) (hy0 : 0 ≤ y) (hy1 : y + 6 ≤ (L : Int)) (nk sk : Nat) (hnk : nk ≤ 9000 ∧ sk ≤ 90000) (M : Mem) (hJ : Iw M) (hR : RlD M ∧ RlG M) (ih : ∀ M' : Mem, Iw M' → (RlD M' ∧ RlG M') → Z D cy ad p l e room_1 s m #[Value.ref b] below meth c A 8 (nk + 6) (sk + 36) (lw_Z below #[Value.ref b] s) 23 [(4, ii (y + 6)), (0, .ref b), (1, .ref (ad 0)), (2, .ref (ad 131)), (3, .ref (ad 151))] [] M') : Z D cy ad p l e room_1 s m #[Value.ref b] below meth c A 8 nk sk (lw_Z below #[Value.ref b] s) 350 [(4, ii y), (0, .ref b), (1, .ref (ad 0)), (2, .ref (ad 131)), (3, .ref (ad 151))] [] M := by
  obtain ⟨hI, hW⟩ := hJ
  have hRT := hR.1.1
  have hRS := hR.1.2
  have hRG := hR.2
  refine z_aload_n F dL_law_350 rfl (q := 2) rfl ?_
  refine z_aload_n F dL_law_351 rfl (q := 1) rfl ?_
  refine z_iload F dL_law_352 (q := 0) rfl ?_
  refine z_iconst F dL_law_354 ?_
  refine z_iadd F dL_law_355 ?_
  refine z_sld F hX hbl hbA hL (by omega) (by omega) dL_law_356 (fun v1 ev1 rv1 => ?_)
  refine z_aload_n F dL_law_357 rfl (q := 1) rfl ?_
  refine z_iload F dL_law_358 (q := 0) rfl ?_
  refine z_iconst F dL_law_360 ?_
  refine z_iadd F dL_law_361 ?_
  refine z_sld F hX hbl hbA hL (by omega) (by omega) dL_law_362 (fun v2 ev2 rv2 => ?_)
  refine z_aload_n F dL_law_363 rfl (q := 4) rfl ?_
  have hIp := hI
  refine zh_i (rest := []) F (k_L_thing l hlT M ⟨hI, hW⟩ v1 (by omega) (by omega) v2 (by omega) (by omega)) cs_L_136 ⟨Nat.le_of_ble_eq_true rfl, Nat.le_of_ble_eq_true rfl⟩ ⟨show _ ≤ 601024 by omega, show _ ≤ 7293034 by omega⟩ rfl rfl rfl (Nat.le_of_ble_eq_true rfl) dL_law_364 (fun v3 M4 rv3 hI p5 => ?_)
  obtain ⟨hI, hW⟩ := hI
  obtain ⟨fp5, xp5⟩ := p5
  have tM4_0_1 : M4 0 1 = M 0 1 := fp5.at (by decide)
  have tM4_131_6 : M4 131 6 = M 131 6 := fp5.at (by decide)
  have hRG : RlG M4 := rg_fr hIp fp5 (by unfold No5; decide) (by unfold NoI No5; decide) (by unfold NoG; decide) hRG
  have hRT : RlT M4 := rl_fr fp5 (by decide) hRT
  have hRS : RlS M4 := rs_fr hIp fp5 (by decide) (by decide) (by decide) (by unfold No5; decide) (by unfold NoI No5; decide) hRS
  refine z_istore F dL_law_367 (by decide) (ls' := [(5, ii v3), (4, ii y), (0, .ref b), (1, .ref (ad 0)), (2, .ref (ad 131)), (3, .ref (ad 151))]) rfl ?_
  refine z_aload_n F dL_law_369 rfl (q := 4) rfl ?_
  refine z_aload_n F dL_law_370 rfl (q := 2) rfl ?_
  refine z_iload F dL_law_371 (q := 1) rfl ?_
  refine z_iconst F dL_law_373 ?_
  refine z_iadd F dL_law_374 ?_
  refine z_sld F hX hbl hbA hL (by omega) (by omega) dL_law_375 (fun v6 ev6 rv6 => ?_)
  have zv6 : v1 = v6 := ev1.trans ev6.symm
  subst zv6
  refine z_aload_n F dL_law_376 rfl (q := 2) rfl ?_
  refine z_iload F dL_law_377 (q := 1) rfl ?_
  refine z_iconst F dL_law_379 ?_
  refine z_iadd F dL_law_380 ?_
  refine z_sld F hX hbl hbA hL (by omega) (by omega) dL_law_381 (fun v7 ev7 rv7 => ?_)
  have zv7 : v2 = v7 := ev2.trans ev7.symm
  subst zv7
  have hIp := hI
  refine zl_i (rest := []) F (k_X12_thing l M4 ⟨hI, hW⟩ v1 (by omega) (by omega) v2 (by omega) (by omega)) cs_L_139 (T := TX12) (N := 44) (ci := 12) rfl gs_131 ⟨Nat.le_of_ble_eq_true rfl, Nat.le_of_ble_eq_true rfl⟩ ⟨show _ ≤ 601024 by omega, show _ ≤ 7293034 by omega⟩ rfl rfl rfl (Nat.le_of_ble_eq_true rfl) dL_law_382 (fun v8 M9 rv8 hI p10 => ?_)
  obtain ⟨hI, hW⟩ := hI
  obtain ⟨⟨av8, bv8⟩, fp10⟩ := p10
  have tM9_0_1 : M9 0 1 = M4 0 1 := fp10.at (by decide)
  have tM9_131_6 : M9 131 6 = M4 131 6 := fp10.t6 (by decide)
  have hRG : RlG M9 := rg_fr hIp fp10 (by unfold No5; decide) (by unfold NoI No5; decide) (by unfold NoG; decide) hRG
  have hRT : RlT M9 := rl_fr fp10 (by decide) hRT
  have hRS : RlS M9 := rs_fr hIp fp10 (by decide) (by decide) (by decide) (by unfold No5; decide) (by unfold NoI No5; decide) hRS
  refine z_istore F dL_law_385 (by decide) (ls' := [(6, ii v8), (5, ii v3), (4, ii y), (0, .ref b), (1, .ref (ad 0)), (2, .ref (ad 131)), (3, .ref (ad 151))]) rfl ?_
  refine z_goto (tgt := 1691) F dL_law_387 (by decide +kernel) ?_
  refine z_iincN F dL_law_1691 (q := 2) rfl (by decide) (fun w e => ?_)
  subst e
  refine z_eq (ls' := [(4, ii (y + 6)), (6, ii v8), (5, ii v3), (0, .ref b), (1, .ref (ad 0)), (2, .ref (ad 131)), (3, .ref (ad 151))]) rfl rfl rfl ?_
  refine z_goto (tgt := 23) F dL_law_1694 (by decide +kernel) ?_
  refine z_loc [0, 3, 4, 5, 6] (ls' := [(4, ii (y + 6)), (0, .ref b), (1, .ref (ad 0)), (2, .ref (ad 131)), (3, .ref (ad 151))]) rfl ?_
  refine z_wide (n1 := nk + 6) (s1 := sk + 36) (by omega) (by omega) ?_
  exact ih _ ⟨hI, hW⟩ ⟨⟨hRT, hRS⟩, hRG⟩
set_option maxRecDepth 4000 in
theorem law_c4 {p : Program} {l : Launch} {e : Env} {s : State} {m : MethodId} {below : List Frame} {meth : Method} {c : Code} {b L : Nat} {xs : Nat → Int32} {D : va_G} {cy : Nat → ClassId} {ad : Nat → Nat} {A : Nat → Prop} (hlT : l.stackTraces = false) (F : FxM D cy ad p m c cL_law 8 s #[Value.ref b] RL A) (hX : va_X b L xs s s.heap) (hbl : b < s.heap.size) (hbA : ¬ A b) (hL : L ≤ 3072) (y : Int) (hy0 : 0 ≤ y) (hy1 : y + 6 ≤ (L : Int)) (nk sk : Nat) (hnk : nk ≤ 9000 ∧ sk ≤ 90000) (M : Mem) (hJ : Iw M) (hR : RlD M ∧ RlG M) (ih : ∀ M' : Mem, Iw M' → (RlD M' ∧ RlG M') → Z D cy ad p l e room_1 s m #[Value.ref b] below meth c A 8 (nk + 6) (sk + 36) (lw_Z below #[Value.ref b] s) 23 [(4, ii (y + 6)), (0, .ref b), (1, .ref (ad 0)), (2, .ref (ad 131)), (3, .ref (ad 151))] [] M') : Z D cy ad p l e room_1 s m #[Value.ref b] below meth c A 8 nk sk (lw_Z below #[Value.ref b] s) 390 [(4, ii y), (0, .ref b), (1, .ref (ad 0)), (2, .ref (ad 131)), (3, .ref (ad 151))] [] M := by
  obtain ⟨hI, hW⟩ := hJ
  have hRT := hR.1.1
  have hRS := hR.1.2
  have hRG := hR.2
  refine z_aload_n F dL_law_390 rfl (q := 2) rfl ?_
  refine z_aload_n F dL_law_391 rfl (q := 1) rfl ?_
  refine z_iload F dL_law_392 (q := 0) rfl ?_
  refine z_iconst F dL_law_394 ?_
  refine z_iadd F dL_law_395 ?_
  refine z_sld F hX hbl hbA hL (by omega) (by omega) dL_law_396 (fun v1 ev1 rv1 => ?_)
  refine z_aload_n F dL_law_397 rfl (q := 1) rfl ?_
  refine z_iload F dL_law_398 (q := 0) rfl ?_
  refine z_iconst F dL_law_400 ?_
  refine z_iadd F dL_law_401 ?_
  refine z_sld F hX hbl hbA hL (by omega) (by omega) dL_law_402 (fun v2 ev2 rv2 => ?_)
  refine z_aload_n F dL_law_403 rfl (q := 4) rfl ?_
  have hIp := hI
  refine zh_i (rest := []) F (k_L_place l hlT M ⟨hI, hW⟩ v1 (by omega) (by omega) v2 (by omega) (by omega)) cs_L_140 ⟨Nat.le_of_ble_eq_true rfl, Nat.le_of_ble_eq_true rfl⟩ ⟨show _ ≤ 601024 by omega, show _ ≤ 7293034 by omega⟩ rfl rfl rfl (Nat.le_of_ble_eq_true rfl) dL_law_404 (fun v3 M4 rv3 hI p5 => ?_)
  obtain ⟨hI, hW⟩ := hI
  obtain ⟨fp5, xp5⟩ := p5
  have tM4_0_1 : M4 0 1 = M 0 1 := fp5.at (by decide)
  have tM4_131_6 : M4 131 6 = M 131 6 := fp5.at (by decide)
  have hRG : RlG M4 := rg_fr hIp fp5 (by unfold No5; decide) (by unfold NoI No5; decide) (by unfold NoG; decide) hRG
  have hRT : RlT M4 := rl_fr fp5 (by decide) hRT
  have hRS : RlS M4 := rs_fr hIp fp5 (by decide) (by decide) (by decide) (by unfold No5; decide) (by unfold NoI No5; decide) hRS
  refine z_istore F dL_law_407 (by decide) (ls' := [(5, ii v3), (4, ii y), (0, .ref b), (1, .ref (ad 0)), (2, .ref (ad 131)), (3, .ref (ad 151))]) rfl ?_
  refine z_aload_n F dL_law_409 rfl (q := 4) rfl ?_
  refine z_aload_n F dL_law_410 rfl (q := 2) rfl ?_
  refine z_iload F dL_law_411 (q := 1) rfl ?_
  refine z_iconst F dL_law_413 ?_
  refine z_iadd F dL_law_414 ?_
  refine z_sld F hX hbl hbA hL (by omega) (by omega) dL_law_415 (fun v6 ev6 rv6 => ?_)
  have zv6 : v1 = v6 := ev1.trans ev6.symm
  subst zv6
  refine z_aload_n F dL_law_416 rfl (q := 2) rfl ?_
  refine z_iload F dL_law_417 (q := 1) rfl ?_
  refine z_iconst F dL_law_419 ?_
  refine z_iadd F dL_law_420 ?_
  refine z_sld F hX hbl hbA hL (by omega) (by omega) dL_law_421 (fun v7 ev7 rv7 => ?_)
  have zv7 : v2 = v7 := ev2.trans ev7.symm
  subst zv7
  have hIp := hI
  refine zl_i (rest := []) F (k_X12_place l M4 ⟨hI, hW⟩ v1 (by omega) (by omega) v2 (by omega) (by omega)) cs_L_142 (T := TX12) (N := 44) (ci := 12) rfl gs_131 ⟨Nat.le_of_ble_eq_true rfl, Nat.le_of_ble_eq_true rfl⟩ ⟨show _ ≤ 601024 by omega, show _ ≤ 7293034 by omega⟩ rfl rfl rfl (Nat.le_of_ble_eq_true rfl) dL_law_422 (fun v8 M9 rv8 hI p10 => ?_)
  obtain ⟨hI, hW⟩ := hI
  obtain ⟨⟨av8, bv8⟩, fp10⟩ := p10
  have tM9_0_1 : M9 0 1 = M4 0 1 := fp10.at (by decide)
  have tM9_131_6 : M9 131 6 = M4 131 6 := fp10.t6 (by decide)
  have hRG : RlG M9 := rg_fr hIp fp10 (by unfold No5; decide) (by unfold NoI No5; decide) (by unfold NoG; decide) hRG
  have hRT : RlT M9 := rl_fr fp10 (by decide) hRT
  have hRS : RlS M9 := rs_fr hIp fp10 (by decide) (by decide) (by decide) (by unfold No5; decide) (by unfold NoI No5; decide) hRS
  refine z_istore F dL_law_425 (by decide) (ls' := [(6, ii v8), (5, ii v3), (4, ii y), (0, .ref b), (1, .ref (ad 0)), (2, .ref (ad 131)), (3, .ref (ad 151))]) rfl ?_
  refine z_goto (tgt := 1691) F dL_law_427 (by decide +kernel) ?_
  refine z_iincN F dL_law_1691 (q := 2) rfl (by decide) (fun w e => ?_)
  subst e
  refine z_eq (ls' := [(4, ii (y + 6)), (6, ii v8), (5, ii v3), (0, .ref b), (1, .ref (ad 0)), (2, .ref (ad 131)), (3, .ref (ad 151))]) rfl rfl rfl ?_
  refine z_goto (tgt := 23) F dL_law_1694 (by decide +kernel) ?_
  refine z_loc [0, 3, 4, 5, 6] (ls' := [(4, ii (y + 6)), (0, .ref b), (1, .ref (ad 0)), (2, .ref (ad 131)), (3, .ref (ad 151))]) rfl ?_
  refine z_wide (n1 := nk + 6) (s1 := sk + 36) (by omega) (by omega) ?_
  exact ih _ ⟨hI, hW⟩ ⟨⟨hRT, hRS⟩, hRG⟩
set_option maxRecDepth 4000 in
theorem law_c5 {p : Program} {l : Launch} {e : Env} {s : State} {m : MethodId} {below : List Frame} {meth : Method} {c : Code} {b L : Nat} {xs : Nat → Int32} {D : va_G} {cy : Nat → ClassId} {ad : Nat → Nat} {A : Nat → Prop} (hlT : l.stackTraces = false) (F : FxM D cy ad p m c cL_law 8 s #[Value.ref b] RL A) (hX : va_X b L xs s s.heap) (hbl : b < s.heap.size) (hbA : ¬ A b) (hL : L ≤ 3072) (y : Int) (hy0 : 0 ≤ y) (hy1 : y + 6 ≤ (L : Int)) (nk sk : Nat) (hnk : nk ≤ 9000 ∧ sk ≤ 90000) (M : Mem) (hJ : Iw M) (hR : RlD M ∧ RlG M) (ih : ∀ M' : Mem, Iw M' → (RlD M' ∧ RlG M') → Z D cy ad p l e room_1 s m #[Value.ref b] below meth c A 8 (nk + 6) (sk + 36) (lw_Z below #[Value.ref b] s) 23 [(4, ii (y + 6)), (0, .ref b), (1, .ref (ad 0)), (2, .ref (ad 131)), (3, .ref (ad 151))] [] M') : Z D cy ad p l e room_1 s m #[Value.ref b] below meth c A 8 nk sk (lw_Z below #[Value.ref b] s) 430 [(4, ii y), (0, .ref b), (1, .ref (ad 0)), (2, .ref (ad 131)), (3, .ref (ad 151))] [] M := by
  obtain ⟨hI, hW⟩ := hJ
  have hRT := hR.1.1
  have hRS := hR.1.2
  have hRG := hR.2
  refine z_aload_n F dL_law_430 rfl (q := 2) rfl ?_
  refine z_aload_n F dL_law_431 rfl (q := 1) rfl ?_
  refine z_iload F dL_law_432 (q := 0) rfl ?_
  refine z_iconst F dL_law_434 ?_
  refine z_iadd F dL_law_435 ?_
  refine z_sld F hX hbl hbA hL (by omega) (by omega) dL_law_436 (fun v1 ev1 rv1 => ?_)
  refine z_aload_n F dL_law_437 rfl (q := 1) rfl ?_
  refine z_iload F dL_law_438 (q := 0) rfl ?_
  refine z_iconst F dL_law_440 ?_
  refine z_iadd F dL_law_441 ?_
  refine z_sld F hX hbl hbA hL (by omega) (by omega) dL_law_442 (fun v2 ev2 rv2 => ?_)
  refine z_aload_n F dL_law_443 rfl (q := 4) rfl ?_
  have hIp := hI
  refine zh_i (rest := []) F (k_L_steps l hlT M ⟨hI, hW⟩ v1 (by omega) (by omega) v2 (by omega) (by omega)) cs_L_143 ⟨Nat.le_of_ble_eq_true rfl, Nat.le_of_ble_eq_true rfl⟩ ⟨show _ ≤ 601024 by omega, show _ ≤ 7293034 by omega⟩ rfl rfl rfl (Nat.le_of_ble_eq_true rfl) dL_law_444 (fun v3 M4 rv3 hI p5 => ?_)
  obtain ⟨hI, hW⟩ := hI
  obtain ⟨fp5, xp5⟩ := p5
  have tM4_0_1 : M4 0 1 = M 0 1 := fp5.at (by decide)
  have tM4_131_6 : M4 131 6 = M 131 6 := fp5.at (by decide)
  have hRS0 := hRS
  have hRG0 := hRG
  have hRG : RlG M4 := rg_fr hIp fp5 (by unfold No5; decide) (by unfold NoI No5; decide) (by unfold NoG; decide) hRG
  have hRT : RlT M4 := rl_fr fp5 (by decide) hRT
  have hRS : RlS M4 := rs_fr hIp fp5 (by decide) (by decide) (by decide) (by unfold No5; decide) (by unfold NoI No5; decide) hRS
  refine z_istore F dL_law_447 (by decide) (ls' := [(5, ii v3), (4, ii y), (0, .ref b), (1, .ref (ad 0)), (2, .ref (ad 131)), (3, .ref (ad 151))]) rfl ?_
  refine z_aload_n F dL_law_449 rfl (q := 4) rfl ?_
  refine z_aload_n F dL_law_450 rfl (q := 2) rfl ?_
  refine z_iload F dL_law_451 (q := 1) rfl ?_
  refine z_iconst F dL_law_453 ?_
  refine z_iadd F dL_law_454 ?_
  refine z_sld F hX hbl hbA hL (by omega) (by omega) dL_law_455 (fun v6 ev6 rv6 => ?_)
  have zv6 : v1 = v6 := ev1.trans ev6.symm
  subst zv6
  refine z_aload_n F dL_law_456 rfl (q := 2) rfl ?_
  refine z_iload F dL_law_457 (q := 1) rfl ?_
  refine z_iconst F dL_law_459 ?_
  refine z_iadd F dL_law_460 ?_
  refine z_sld F hX hbl hbA hL (by omega) (by omega) dL_law_461 (fun v7 ev7 rv7 => ?_)
  have zv7 : v2 = v7 := ev2.trans ev7.symm
  subst zv7
  have hIp := hI
  refine zl_i (rest := []) F (k_X12_steps l M4 ⟨hI, hW⟩ v1 (by omega) (by omega) v2 (by omega) (by omega)) cs_L_145 (T := TX12) (N := 44) (ci := 12) rfl gs_131 ⟨Nat.le_of_ble_eq_true rfl, Nat.le_of_ble_eq_true rfl⟩ ⟨show _ ≤ 601024 by omega, show _ ≤ 7293034 by omega⟩ rfl rfl rfl (Nat.le_of_ble_eq_true rfl) dL_law_462 (fun v8 M9 rv8 hI p10 => ?_)
  obtain ⟨hI, hW⟩ := hI
  obtain ⟨⟨av8, bv8⟩, fp10⟩ := p10
  have tM9_0_1 : M9 0 1 = M4 0 1 := fp10.at (by decide)
  have tM9_131_6 : M9 131 6 = M4 131 6 := fp10.t6 (by decide)
  have hRG : RlG M9 := rg_fr hIp fp10 (by unfold No5; decide) (by unfold NoI No5; decide) (by unfold NoG; decide) hRG
  have hRT : RlT M9 := rl_fr fp10 (by decide) hRT
  have hRS : RlS M9 := rs_fr hIp fp10 (by decide) (by decide) (by decide) (by unfold No5; decide) (by unfold NoI No5; decide) hRS
  refine z_istore F dL_law_465 (by decide) (ls' := [(6, ii v8), (5, ii v3), (4, ii y), (0, .ref b), (1, .ref (ad 0)), (2, .ref (ad 131)), (3, .ref (ad 151))]) rfl ?_
  refine z_goto (tgt := 1691) F dL_law_467 (by decide +kernel) ?_
  refine z_iincN F dL_law_1691 (q := 2) rfl (by decide) (fun w e => ?_)
  subst e
  refine z_eq (ls' := [(4, ii (y + 6)), (6, ii v8), (5, ii v3), (0, .ref b), (1, .ref (ad 0)), (2, .ref (ad 131)), (3, .ref (ad 151))]) rfl rfl rfl ?_
  refine z_goto (tgt := 23) F dL_law_1694 (by decide +kernel) ?_
  refine z_loc [0, 3, 4, 5, 6] (ls' := [(4, ii (y + 6)), (0, .ref b), (1, .ref (ad 0)), (2, .ref (ad 131)), (3, .ref (ad 151))]) rfl ?_
  refine z_wide (n1 := nk + 6) (s1 := sk + 36) (by omega) (by omega) ?_
  exact ih _ ⟨hI, hW⟩ ⟨⟨hRT, hRS⟩, hRG⟩
set_option maxRecDepth 4000 in
theorem law_c6 {p : Program} {l : Launch} {e : Env} {s : State} {m : MethodId} {below : List Frame} {meth : Method} {c : Code} {b L : Nat} {xs : Nat → Int32} {D : va_G} {cy : Nat → ClassId} {ad : Nat → Nat} {A : Nat → Prop} (hlT : l.stackTraces = false) (F : FxM D cy ad p m c cL_law 8 s #[Value.ref b] RL A) (hX : va_X b L xs s s.heap) (hbl : b < s.heap.size) (hbA : ¬ A b) (hL : L ≤ 3072) (y : Int) (hy0 : 0 ≤ y) (hy1 : y + 6 ≤ (L : Int)) (nk sk : Nat) (hnk : nk ≤ 9000 ∧ sk ≤ 90000) (M : Mem) (hJ : Iw M) (hR : RlD M ∧ RlG M) (ih : ∀ M' : Mem, Iw M' → (RlD M' ∧ RlG M') → Z D cy ad p l e room_1 s m #[Value.ref b] below meth c A 8 (nk + 6) (sk + 36) (lw_Z below #[Value.ref b] s) 23 [(4, ii (y + 6)), (0, .ref b), (1, .ref (ad 0)), (2, .ref (ad 131)), (3, .ref (ad 151))] [] M') : Z D cy ad p l e room_1 s m #[Value.ref b] below meth c A 8 nk sk (lw_Z below #[Value.ref b] s) 470 [(4, ii y), (0, .ref b), (1, .ref (ad 0)), (2, .ref (ad 131)), (3, .ref (ad 151))] [] M := by
  obtain ⟨hI, hW⟩ := hJ
  have hRT := hR.1.1
  have hRS := hR.1.2
  have hRG := hR.2
  refine z_aload_n F dL_law_470 rfl (q := 2) rfl ?_
  refine z_aload_n F dL_law_471 rfl (q := 1) rfl ?_
  refine z_iload F dL_law_472 (q := 0) rfl ?_
  refine z_iconst F dL_law_474 ?_
  refine z_iadd F dL_law_475 ?_
  refine z_sld F hX hbl hbA hL (by omega) (by omega) dL_law_476 (fun v1 ev1 rv1 => ?_)
  refine z_aload_n F dL_law_477 rfl (q := 1) rfl ?_
  refine z_iload F dL_law_478 (q := 0) rfl ?_
  refine z_iconst F dL_law_480 ?_
  refine z_iadd F dL_law_481 ?_
  refine z_sld F hX hbl hbA hL (by omega) (by omega) dL_law_482 (fun v2 ev2 rv2 => ?_)
  refine z_aload_n F dL_law_483 rfl (q := 1) rfl ?_
  refine z_iload F dL_law_484 (q := 0) rfl ?_
  refine z_iconst F dL_law_486 ?_
  refine z_iadd F dL_law_487 ?_
  refine z_sld F hX hbl hbA hL (by omega) (by omega) dL_law_488 (fun v3 ev3 rv3 => ?_)
  refine z_if_eq (tgt := 496) F dL_law_489 (by decide +kernel) (by omega) (fun c4 => ?_) (fun c4 => ?_)
  · refine z_iconst F dL_law_496 ?_
    refine z_aload_n F dL_law_497 rfl (q := 4) rfl ?_
    have hIp := hI
    refine zh_i (rest := []) F (k_L_clash l hlT M ⟨hI, hW⟩ v1 (by omega) (by omega) v2 (by omega) (by omega) 0 (by omega) (by omega)) cs_L_146 ⟨Nat.le_of_ble_eq_true rfl, Nat.le_of_ble_eq_true rfl⟩ ⟨show _ ≤ 601024 by omega, show _ ≤ 7293034 by omega⟩ rfl rfl rfl (Nat.le_of_ble_eq_true rfl) dL_law_498 (fun v5 M6 rv5 hI p7 => ?_)
    obtain ⟨hI, hW⟩ := hI
    obtain ⟨fp7, xp7⟩ := p7
    have tM6_0_1 : M6 0 1 = M 0 1 := fp7.at (by decide)
    have tM6_131_6 : M6 131 6 = M 131 6 := fp7.at (by decide)
    have hRG : RlG M6 := rg_fr hIp fp7 (by unfold No5; decide) (by unfold NoI No5; decide) (by unfold NoG; decide) hRG
    have hRT : RlT M6 := rl_fr fp7 (by decide) hRT
    have hRS : RlS M6 := rs_fr hIp fp7 (by decide) (by decide) (by decide) (by unfold No5; decide) (by unfold NoI No5; decide) hRS
    refine z_istore F dL_law_501 (by decide) (ls' := [(5, ii v5), (4, ii y), (0, .ref b), (1, .ref (ad 0)), (2, .ref (ad 131)), (3, .ref (ad 151))]) rfl ?_
    refine z_aload_n F dL_law_503 rfl (q := 4) rfl ?_
    refine z_aload_n F dL_law_504 rfl (q := 2) rfl ?_
    refine z_iload F dL_law_505 (q := 1) rfl ?_
    refine z_iconst F dL_law_507 ?_
    refine z_iadd F dL_law_508 ?_
    refine z_sld F hX hbl hbA hL (by omega) (by omega) dL_law_509 (fun v8 ev8 rv8 => ?_)
    have zv8 : v1 = v8 := ev1.trans ev8.symm
    subst zv8
    refine z_aload_n F dL_law_510 rfl (q := 2) rfl ?_
    refine z_iload F dL_law_511 (q := 1) rfl ?_
    refine z_iconst F dL_law_513 ?_
    refine z_iadd F dL_law_514 ?_
    refine z_sld F hX hbl hbA hL (by omega) (by omega) dL_law_515 (fun v9 ev9 rv9 => ?_)
    have zv9 : v2 = v9 := ev2.trans ev9.symm
    subst zv9
    refine z_aload_n F dL_law_516 rfl (q := 2) rfl ?_
    refine z_iload F dL_law_517 (q := 1) rfl ?_
    refine z_iconst F dL_law_519 ?_
    refine z_iadd F dL_law_520 ?_
    refine z_sld F hX hbl hbA hL (by omega) (by omega) dL_law_521 (fun v10 ev10 rv10 => ?_)
    have zv10 : v3 = v10 := ev3.trans ev10.symm
    subst zv10
    refine z_if_eq (tgt := 529) F dL_law_522 (by decide +kernel) (by omega) (fun c11 => ?_) (fun c11 => by exfalso; omega)
    refine z_iconst F dL_law_529 ?_
    have hIp := hI
    refine zl_i (rest := []) F (k_X12_clash l M6 ⟨hI, hW⟩ v1 (by omega) (by omega) v2 (by omega) (by omega) 0 (by omega) (by omega)) cs_L_149 (T := TX12) (N := 44) (ci := 12) rfl gs_131 ⟨Nat.le_of_ble_eq_true rfl, Nat.le_of_ble_eq_true rfl⟩ ⟨show _ ≤ 601024 by omega, show _ ≤ 7293034 by omega⟩ rfl rfl rfl (Nat.le_of_ble_eq_true rfl) dL_law_530 (fun v12 M13 rv12 hI p14 => ?_)
    obtain ⟨hI, hW⟩ := hI
    obtain ⟨⟨av12, bv12⟩, fp14⟩ := p14
    have tM13_0_1 : M13 0 1 = M6 0 1 := fp14.at (by decide)
    have tM13_131_6 : M13 131 6 = M6 131 6 := fp14.t6 (by decide)
    have hRG : RlG M13 := rg_fr hIp fp14 (by unfold No5; decide) (by unfold NoI No5; decide) (by unfold NoG; decide) hRG
    have hRT : RlT M13 := rl_fr fp14 (by decide) hRT
    have hRS : RlS M13 := rs_fr hIp fp14 (by decide) (by decide) (by decide) (by unfold No5; decide) (by unfold NoI No5; decide) hRS
    refine z_istore F dL_law_533 (by decide) (ls' := [(6, ii v12), (5, ii v5), (4, ii y), (0, .ref b), (1, .ref (ad 0)), (2, .ref (ad 131)), (3, .ref (ad 151))]) rfl ?_
    refine z_goto (tgt := 1691) F dL_law_535 (by decide +kernel) ?_
    refine z_iincN F dL_law_1691 (q := 2) rfl (by decide) (fun w e => ?_)
    subst e
    refine z_eq (ls' := [(4, ii (y + 6)), (6, ii v12), (5, ii v5), (0, .ref b), (1, .ref (ad 0)), (2, .ref (ad 131)), (3, .ref (ad 151))]) rfl rfl rfl ?_
    refine z_goto (tgt := 23) F dL_law_1694 (by decide +kernel) ?_
    refine z_loc [0, 3, 4, 5, 6] (ls' := [(4, ii (y + 6)), (0, .ref b), (1, .ref (ad 0)), (2, .ref (ad 131)), (3, .ref (ad 151))]) rfl ?_
    refine z_wide (n1 := nk + 6) (s1 := sk + 36) (by omega) (by omega) ?_
    exact ih _ ⟨hI, hW⟩ ⟨⟨hRT, hRS⟩, hRG⟩
  · refine z_iconst F dL_law_492 ?_
    refine z_goto (tgt := 497) F dL_law_493 (by decide +kernel) ?_
    refine z_aload_n F dL_law_497 rfl (q := 4) rfl ?_
    have hIp := hI
    refine zh_i (rest := []) F (k_L_clash l hlT M ⟨hI, hW⟩ v1 (by omega) (by omega) v2 (by omega) (by omega) 1 (by omega) (by omega)) cs_L_146 ⟨Nat.le_of_ble_eq_true rfl, Nat.le_of_ble_eq_true rfl⟩ ⟨show _ ≤ 601024 by omega, show _ ≤ 7293034 by omega⟩ rfl rfl rfl (Nat.le_of_ble_eq_true rfl) dL_law_498 (fun v15 M16 rv15 hI p17 => ?_)
    obtain ⟨hI, hW⟩ := hI
    obtain ⟨fp17, xp17⟩ := p17
    have tM16_0_1 : M16 0 1 = M 0 1 := fp17.at (by decide)
    have tM16_131_6 : M16 131 6 = M 131 6 := fp17.at (by decide)
    have hRG : RlG M16 := rg_fr hIp fp17 (by unfold No5; decide) (by unfold NoI No5; decide) (by unfold NoG; decide) hRG
    have hRT : RlT M16 := rl_fr fp17 (by decide) hRT
    have hRS : RlS M16 := rs_fr hIp fp17 (by decide) (by decide) (by decide) (by unfold No5; decide) (by unfold NoI No5; decide) hRS
    refine z_istore F dL_law_501 (by decide) (ls' := [(5, ii v15), (4, ii y), (0, .ref b), (1, .ref (ad 0)), (2, .ref (ad 131)), (3, .ref (ad 151))]) rfl ?_
    refine z_aload_n F dL_law_503 rfl (q := 4) rfl ?_
    refine z_aload_n F dL_law_504 rfl (q := 2) rfl ?_
    refine z_iload F dL_law_505 (q := 1) rfl ?_
    refine z_iconst F dL_law_507 ?_
    refine z_iadd F dL_law_508 ?_
    refine z_sld F hX hbl hbA hL (by omega) (by omega) dL_law_509 (fun v18 ev18 rv18 => ?_)
    have zv18 : v1 = v18 := ev1.trans ev18.symm
    subst zv18
    refine z_aload_n F dL_law_510 rfl (q := 2) rfl ?_
    refine z_iload F dL_law_511 (q := 1) rfl ?_
    refine z_iconst F dL_law_513 ?_
    refine z_iadd F dL_law_514 ?_
    refine z_sld F hX hbl hbA hL (by omega) (by omega) dL_law_515 (fun v19 ev19 rv19 => ?_)
    have zv19 : v2 = v19 := ev2.trans ev19.symm
    subst zv19
    refine z_aload_n F dL_law_516 rfl (q := 2) rfl ?_
    refine z_iload F dL_law_517 (q := 1) rfl ?_
    refine z_iconst F dL_law_519 ?_
    refine z_iadd F dL_law_520 ?_
    refine z_sld F hX hbl hbA hL (by omega) (by omega) dL_law_521 (fun v20 ev20 rv20 => ?_)
    have zv20 : v3 = v20 := ev3.trans ev20.symm
    subst zv20
    refine z_if_eq (tgt := 529) F dL_law_522 (by decide +kernel) (by omega) (fun c21 => ?_) (fun c21 => ?_)
    · refine z_iconst F dL_law_529 ?_
      have hIp := hI
      refine zl_i (rest := []) F (k_X12_clash l M16 ⟨hI, hW⟩ v1 (by omega) (by omega) v2 (by omega) (by omega) 0 (by omega) (by omega)) cs_L_149 (T := TX12) (N := 44) (ci := 12) rfl gs_131 ⟨Nat.le_of_ble_eq_true rfl, Nat.le_of_ble_eq_true rfl⟩ ⟨show _ ≤ 601024 by omega, show _ ≤ 7293034 by omega⟩ rfl rfl rfl (Nat.le_of_ble_eq_true rfl) dL_law_530 (fun v22 M23 rv22 hI p24 => ?_)
      obtain ⟨hI, hW⟩ := hI
      obtain ⟨⟨av22, bv22⟩, fp24⟩ := p24
      have tM23_0_1 : M23 0 1 = M16 0 1 := fp24.at (by decide)
      have tM23_131_6 : M23 131 6 = M16 131 6 := fp24.t6 (by decide)
      have hRG : RlG M23 := rg_fr hIp fp24 (by unfold No5; decide) (by unfold NoI No5; decide) (by unfold NoG; decide) hRG
      have hRT : RlT M23 := rl_fr fp24 (by decide) hRT
      have hRS : RlS M23 := rs_fr hIp fp24 (by decide) (by decide) (by decide) (by unfold No5; decide) (by unfold NoI No5; decide) hRS
      refine z_istore F dL_law_533 (by decide) (ls' := [(6, ii v22), (5, ii v15), (4, ii y), (0, .ref b), (1, .ref (ad 0)), (2, .ref (ad 131)), (3, .ref (ad 151))]) rfl ?_
      refine z_goto (tgt := 1691) F dL_law_535 (by decide +kernel) ?_
      refine z_iincN F dL_law_1691 (q := 2) rfl (by decide) (fun w e => ?_)
      subst e
      refine z_eq (ls' := [(4, ii (y + 6)), (6, ii v22), (5, ii v15), (0, .ref b), (1, .ref (ad 0)), (2, .ref (ad 131)), (3, .ref (ad 151))]) rfl rfl rfl ?_
      refine z_goto (tgt := 23) F dL_law_1694 (by decide +kernel) ?_
      refine z_loc [0, 3, 4, 5, 6] (ls' := [(4, ii (y + 6)), (0, .ref b), (1, .ref (ad 0)), (2, .ref (ad 131)), (3, .ref (ad 151))]) rfl ?_
      refine z_wide (n1 := nk + 6) (s1 := sk + 36) (by omega) (by omega) ?_
      exact ih _ ⟨hI, hW⟩ ⟨⟨hRT, hRS⟩, hRG⟩
    · refine z_iconst F dL_law_525 ?_
      refine z_goto (tgt := 530) F dL_law_526 (by decide +kernel) ?_
      have hIp := hI
      refine zl_i (rest := []) F (k_X12_clash l M16 ⟨hI, hW⟩ v1 (by omega) (by omega) v2 (by omega) (by omega) 1 (by omega) (by omega)) cs_L_149 (T := TX12) (N := 44) (ci := 12) rfl gs_131 ⟨Nat.le_of_ble_eq_true rfl, Nat.le_of_ble_eq_true rfl⟩ ⟨show _ ≤ 601024 by omega, show _ ≤ 7293034 by omega⟩ rfl rfl rfl (Nat.le_of_ble_eq_true rfl) dL_law_530 (fun v25 M26 rv25 hI p27 => ?_)
      obtain ⟨hI, hW⟩ := hI
      obtain ⟨⟨av25, bv25⟩, fp27⟩ := p27
      have tM26_0_1 : M26 0 1 = M16 0 1 := fp27.at (by decide)
      have tM26_131_6 : M26 131 6 = M16 131 6 := fp27.t6 (by decide)
      have hRG : RlG M26 := rg_fr hIp fp27 (by unfold No5; decide) (by unfold NoI No5; decide) (by unfold NoG; decide) hRG
      have hRT : RlT M26 := rl_fr fp27 (by decide) hRT
      have hRS : RlS M26 := rs_fr hIp fp27 (by decide) (by decide) (by decide) (by unfold No5; decide) (by unfold NoI No5; decide) hRS
      refine z_istore F dL_law_533 (by decide) (ls' := [(6, ii v25), (5, ii v15), (4, ii y), (0, .ref b), (1, .ref (ad 0)), (2, .ref (ad 131)), (3, .ref (ad 151))]) rfl ?_
      refine z_goto (tgt := 1691) F dL_law_535 (by decide +kernel) ?_
      refine z_iincN F dL_law_1691 (q := 2) rfl (by decide) (fun w e => ?_)
      subst e
      refine z_eq (ls' := [(4, ii (y + 6)), (6, ii v25), (5, ii v15), (0, .ref b), (1, .ref (ad 0)), (2, .ref (ad 131)), (3, .ref (ad 151))]) rfl rfl rfl ?_
      refine z_goto (tgt := 23) F dL_law_1694 (by decide +kernel) ?_
      refine z_loc [0, 3, 4, 5, 6] (ls' := [(4, ii (y + 6)), (0, .ref b), (1, .ref (ad 0)), (2, .ref (ad 131)), (3, .ref (ad 151))]) rfl ?_
      refine z_wide (n1 := nk + 6) (s1 := sk + 36) (by omega) (by omega) ?_
      exact ih _ ⟨hI, hW⟩ ⟨⟨hRT, hRS⟩, hRG⟩
set_option maxRecDepth 4000 in
theorem law_c7 {p : Program} {l : Launch} {e : Env} {s : State} {m : MethodId} {below : List Frame} {meth : Method} {c : Code} {b L : Nat} {xs : Nat → Int32} {D : va_G} {cy : Nat → ClassId} {ad : Nat → Nat} {A : Nat → Prop} (hlT : l.stackTraces = false) (F : FxM D cy ad p m c cL_law 8 s #[Value.ref b] RL A) (hX : va_X b L xs s s.heap) (hbl : b < s.heap.size) (hbA : ¬ A b) (hL : L ≤ 3072) (y : Int) (hy0 : 0 ≤ y) (hy1 : y + 6 ≤ (L : Int)) (nk sk : Nat) (hnk : nk ≤ 9000 ∧ sk ≤ 90000) (M : Mem) (hJ : Iw M) (hR : RlD M ∧ RlG M) (ih : ∀ M' : Mem, Iw M' → (RlD M' ∧ RlG M') → Z D cy ad p l e room_1 s m #[Value.ref b] below meth c A 8 (nk + 6) (sk + 36) (lw_Z below #[Value.ref b] s) 23 [(4, ii (y + 6)), (0, .ref b), (1, .ref (ad 0)), (2, .ref (ad 131)), (3, .ref (ad 151))] [] M') : Z D cy ad p l e room_1 s m #[Value.ref b] below meth c A 8 nk sk (lw_Z below #[Value.ref b] s) 538 [(4, ii y), (0, .ref b), (1, .ref (ad 0)), (2, .ref (ad 131)), (3, .ref (ad 151))] [] M := by
  obtain ⟨hI, hW⟩ := hJ
  have hRT := hR.1.1
  have hRS := hR.1.2
  have hRG := hR.2
  refine z_aload_n F dL_law_538 rfl (q := 2) rfl ?_
  have hIp := hI
  refine zl_i (rest := []) F (k_X11_clashes l M ⟨hI, hW⟩) cs_L_150 (T := TX11) (N := 14) (ci := 11) rfl gs_0 ⟨Nat.le_of_ble_eq_true rfl, Nat.le_of_ble_eq_true rfl⟩ ⟨show _ ≤ 601024 by omega, show _ ≤ 7293034 by omega⟩ rfl rfl rfl (Nat.le_of_ble_eq_true rfl) dL_law_539 (fun v1 M2 rv1 hI p3 => ?_)
  obtain ⟨hI, hW⟩ := hI
  obtain ⟨⟨av1, bv1⟩, rfl⟩ := p3
  refine z_pop F dL_law_542 rfl ?_
  refine z_aload_n F dL_law_543 rfl (q := 3) rfl ?_
  have hIp := hI
  refine zl_i (rest := []) F (k_X12_clashes l M ⟨hI, hW⟩) cs_L_153 (T := TX12) (N := 44) (ci := 12) rfl gs_131 ⟨Nat.le_of_ble_eq_true rfl, Nat.le_of_ble_eq_true rfl⟩ ⟨show _ ≤ 601024 by omega, show _ ≤ 7293034 by omega⟩ rfl rfl rfl (Nat.le_of_ble_eq_true rfl) dL_law_544 (fun v4 M5 rv4 hI p6 => ?_)
  obtain ⟨hI, hW⟩ := hI
  obtain ⟨⟨av4, bv4⟩, fp6⟩ := p6
  have tM5_0_1 : M5 0 1 = M 0 1 := fp6.at (by decide)
  have tM5_131_6 : M5 131 6 = M 131 6 := fp6.t6 (by decide)
  have hRG : RlG M5 := rg_fr hIp fp6 (by unfold No5; decide) (by unfold NoI No5; decide) (by unfold NoG; decide) hRG
  have hRT : RlT M5 := rl_fr fp6 (by decide) hRT
  have hRS : RlS M5 := rs_fr hIp fp6 (by decide) (by decide) (by decide) (by unfold No5; decide) (by unfold NoI No5; decide) hRS
  refine z_pop F dL_law_547 rfl ?_
  refine z_goto (tgt := 1691) F dL_law_548 (by decide +kernel) ?_
  refine z_iincN F dL_law_1691 (q := 0) rfl (by decide) (fun w e => ?_)
  subst e
  refine z_eq (ls' := [(4, ii (y + 6)), (0, .ref b), (1, .ref (ad 0)), (2, .ref (ad 131)), (3, .ref (ad 151))]) rfl rfl rfl ?_
  refine z_goto (tgt := 23) F dL_law_1694 (by decide +kernel) ?_
  refine z_loc [0, 1, 2, 3, 4] (ls' := [(4, ii (y + 6)), (0, .ref b), (1, .ref (ad 0)), (2, .ref (ad 131)), (3, .ref (ad 151))]) rfl ?_
  refine z_wide (n1 := nk + 6) (s1 := sk + 36) (by omega) (by omega) ?_
  exact ih _ ⟨hI, hW⟩ ⟨⟨hRT, hRS⟩, hRG⟩
set_option maxRecDepth 4000 in
theorem law_c8 {p : Program} {l : Launch} {e : Env} {s : State} {m : MethodId} {below : List Frame} {meth : Method} {c : Code} {b L : Nat} {xs : Nat → Int32} {D : va_G} {cy : Nat → ClassId} {ad : Nat → Nat} {A : Nat → Prop} (hlT : l.stackTraces = false) (F : FxM D cy ad p m c cL_law 8 s #[Value.ref b] RL A) (hX : va_X b L xs s s.heap) (hbl : b < s.heap.size) (hbA : ¬ A b) (hL : L ≤ 3072) (y : Int) (hy0 : 0 ≤ y) (hy1 : y + 6 ≤ (L : Int)) (nk sk : Nat) (hnk : nk ≤ 9000 ∧ sk ≤ 90000) (M : Mem) (hJ : Iw M) (hR : RlD M ∧ RlG M) (ih : ∀ M' : Mem, Iw M' → (RlD M' ∧ RlG M') → Z D cy ad p l e room_1 s m #[Value.ref b] below meth c A 8 (nk + 6) (sk + 36) (lw_Z below #[Value.ref b] s) 23 [(4, ii (y + 6)), (0, .ref b), (1, .ref (ad 0)), (2, .ref (ad 131)), (3, .ref (ad 151))] [] M') : Z D cy ad p l e room_1 s m #[Value.ref b] below meth c A 8 nk sk (lw_Z below #[Value.ref b] s) 551 [(4, ii y), (0, .ref b), (1, .ref (ad 0)), (2, .ref (ad 131)), (3, .ref (ad 151))] [] M := by
  obtain ⟨hI, hW⟩ := hJ
  have hRT := hR.1.1
  have hRS := hR.1.2
  have hRG := hR.2
  refine z_aload_n F dL_law_551 rfl (q := 2) rfl ?_
  have hIp := hI
  refine zl_i (rest := []) F (k_X11_firstClash l M ⟨hI, hW⟩) cs_L_154 (T := TX11) (N := 14) (ci := 11) rfl gs_0 ⟨Nat.le_of_ble_eq_true rfl, Nat.le_of_ble_eq_true rfl⟩ ⟨show _ ≤ 601024 by omega, show _ ≤ 7293034 by omega⟩ rfl rfl rfl (Nat.le_of_ble_eq_true rfl) dL_law_552 (fun v1 M2 rv1 hI p3 => ?_)
  obtain ⟨hI, hW⟩ := hI
  obtain ⟨⟨av1, bv1⟩, rfl⟩ := p3
  refine z_pop F dL_law_555 rfl ?_
  refine z_aload_n F dL_law_556 rfl (q := 3) rfl ?_
  have hIp := hI
  refine zl_i (rest := []) F (k_X12_firstClash l M ⟨hI, hW⟩) cs_L_157 (T := TX12) (N := 44) (ci := 12) rfl gs_131 ⟨Nat.le_of_ble_eq_true rfl, Nat.le_of_ble_eq_true rfl⟩ ⟨show _ ≤ 601024 by omega, show _ ≤ 7293034 by omega⟩ rfl rfl rfl (Nat.le_of_ble_eq_true rfl) dL_law_557 (fun v4 M5 rv4 hI p6 => ?_)
  obtain ⟨hI, hW⟩ := hI
  obtain ⟨⟨av4, bv4⟩, fp6⟩ := p6
  have tM5_0_1 : M5 0 1 = M 0 1 := fp6.at (by decide)
  have tM5_131_6 : M5 131 6 = M 131 6 := fp6.t6 (by decide)
  have hRG : RlG M5 := rg_fr hIp fp6 (by unfold No5; decide) (by unfold NoI No5; decide) (by unfold NoG; decide) hRG
  have hRT : RlT M5 := rl_fr fp6 (by decide) hRT
  have hRS : RlS M5 := rs_fr hIp fp6 (by decide) (by decide) (by decide) (by unfold No5; decide) (by unfold NoI No5; decide) hRS
  refine z_pop F dL_law_560 rfl ?_
  refine z_goto (tgt := 1691) F dL_law_561 (by decide +kernel) ?_
  refine z_iincN F dL_law_1691 (q := 0) rfl (by decide) (fun w e => ?_)
  subst e
  refine z_eq (ls' := [(4, ii (y + 6)), (0, .ref b), (1, .ref (ad 0)), (2, .ref (ad 131)), (3, .ref (ad 151))]) rfl rfl rfl ?_
  refine z_goto (tgt := 23) F dL_law_1694 (by decide +kernel) ?_
  refine z_loc [0, 1, 2, 3, 4] (ls' := [(4, ii (y + 6)), (0, .ref b), (1, .ref (ad 0)), (2, .ref (ad 131)), (3, .ref (ad 151))]) rfl ?_
  refine z_wide (n1 := nk + 6) (s1 := sk + 36) (by omega) (by omega) ?_
  exact ih _ ⟨hI, hW⟩ ⟨⟨hRT, hRS⟩, hRG⟩
set_option maxRecDepth 4000 in
theorem law_c9 {p : Program} {l : Launch} {e : Env} {s : State} {m : MethodId} {below : List Frame} {meth : Method} {c : Code} {b L : Nat} {xs : Nat → Int32} {D : va_G} {cy : Nat → ClassId} {ad : Nat → Nat} {A : Nat → Prop} (hlT : l.stackTraces = false) (F : FxM D cy ad p m c cL_law 8 s #[Value.ref b] RL A) (hX : va_X b L xs s s.heap) (hbl : b < s.heap.size) (hbA : ¬ A b) (hL : L ≤ 3072) (y : Int) (hy0 : 0 ≤ y) (hy1 : y + 6 ≤ (L : Int)) (nk sk : Nat) (hnk : nk ≤ 9000 ∧ sk ≤ 90000) (M : Mem) (hJ : Iw M) (hR : RlD M ∧ RlG M) (ih : ∀ M' : Mem, Iw M' → (RlD M' ∧ RlG M') → Z D cy ad p l e room_1 s m #[Value.ref b] below meth c A 8 (nk + 6) (sk + 36) (lw_Z below #[Value.ref b] s) 23 [(4, ii (y + 6)), (0, .ref b), (1, .ref (ad 0)), (2, .ref (ad 131)), (3, .ref (ad 151))] [] M') : Z D cy ad p l e room_1 s m #[Value.ref b] below meth c A 8 nk sk (lw_Z below #[Value.ref b] s) 564 [(4, ii y), (0, .ref b), (1, .ref (ad 0)), (2, .ref (ad 131)), (3, .ref (ad 151))] [] M := by
  obtain ⟨hI, hW⟩ := hJ
  have hRT := hR.1.1
  have hRS := hR.1.2
  have hRG := hR.2
  refine z_aload_n F dL_law_564 rfl (q := 2) rfl ?_
  refine z_aload_n F dL_law_565 rfl (q := 1) rfl ?_
  refine z_iload F dL_law_566 (q := 0) rfl ?_
  refine z_iconst F dL_law_568 ?_
  refine z_iadd F dL_law_569 ?_
  refine z_sld F hX hbl hbA hL (by omega) (by omega) dL_law_570 (fun v1 ev1 rv1 => ?_)
  refine z_aload_n F dL_law_571 rfl (q := 1) rfl ?_
  refine z_iload F dL_law_572 (q := 0) rfl ?_
  refine z_iconst F dL_law_574 ?_
  refine z_iadd F dL_law_575 ?_
  refine z_sld F hX hbl hbA hL (by omega) (by omega) dL_law_576 (fun v2 ev2 rv2 => ?_)
  refine z_aload_n F dL_law_577 rfl (q := 4) rfl ?_
  have hIp := hI
  refine zh_i (rest := []) F (k_L_change l hlT M ⟨hI, hW⟩ v1 (by omega) (by omega) v2 (by omega) (by omega)) cs_L_158 ⟨Nat.le_of_ble_eq_true rfl, Nat.le_of_ble_eq_true rfl⟩ ⟨show _ ≤ 601024 by omega, show _ ≤ 7293034 by omega⟩ rfl rfl rfl (Nat.le_of_ble_eq_true rfl) dL_law_578 (fun v3 M4 rv3 hI p5 => ?_)
  obtain ⟨hI, hW⟩ := hI
  obtain ⟨fp5, xp5⟩ := p5
  have tM4_0_1 : M4 0 1 = M 0 1 := fp5.at (by decide)
  have tM4_131_6 : M4 131 6 = M 131 6 := fp5.at (by decide)
  have hRG : RlG M4 := rg_fr hIp fp5 (by unfold No5; decide) (by unfold NoI No5; decide) (by unfold NoG; decide) hRG
  have hRT : RlT M4 := rl_fr fp5 (by decide) hRT
  have hRS : RlS M4 := rs_fr hIp fp5 (by decide) (by decide) (by decide) (by unfold No5; decide) (by unfold NoI No5; decide) hRS
  refine z_istore F dL_law_581 (by decide) (ls' := [(5, ii v3), (4, ii y), (0, .ref b), (1, .ref (ad 0)), (2, .ref (ad 131)), (3, .ref (ad 151))]) rfl ?_
  refine z_aload_n F dL_law_583 rfl (q := 4) rfl ?_
  refine z_aload_n F dL_law_584 rfl (q := 2) rfl ?_
  refine z_iload F dL_law_585 (q := 1) rfl ?_
  refine z_iconst F dL_law_587 ?_
  refine z_iadd F dL_law_588 ?_
  refine z_sld F hX hbl hbA hL (by omega) (by omega) dL_law_589 (fun v6 ev6 rv6 => ?_)
  have zv6 : v1 = v6 := ev1.trans ev6.symm
  subst zv6
  refine z_aload_n F dL_law_590 rfl (q := 2) rfl ?_
  refine z_iload F dL_law_591 (q := 1) rfl ?_
  refine z_iconst F dL_law_593 ?_
  refine z_iadd F dL_law_594 ?_
  refine z_sld F hX hbl hbA hL (by omega) (by omega) dL_law_595 (fun v7 ev7 rv7 => ?_)
  have zv7 : v2 = v7 := ev2.trans ev7.symm
  subst zv7
  have hIp := hI
  refine zl_i (rest := []) F (k_X12_change l M4 ⟨hI, hW⟩ v1 (by omega) (by omega) v2 (by omega) (by omega)) cs_L_160 (T := TX12) (N := 44) (ci := 12) rfl gs_131 ⟨Nat.le_of_ble_eq_true rfl, Nat.le_of_ble_eq_true rfl⟩ ⟨show _ ≤ 601024 by omega, show _ ≤ 7293034 by omega⟩ rfl rfl rfl (Nat.le_of_ble_eq_true rfl) dL_law_596 (fun v8 M9 rv8 hI p10 => ?_)
  obtain ⟨hI, hW⟩ := hI
  obtain ⟨⟨av8, bv8⟩, fp10⟩ := p10
  have tM9_0_1 : M9 0 1 = M4 0 1 := fp10.at (by decide)
  have tM9_131_6 : M9 131 6 = M4 131 6 := fp10.t6 (by decide)
  have hRG : RlG M9 := rg_fr hIp fp10 (by unfold No5; decide) (by unfold NoI No5; decide) (by unfold NoG; decide) hRG
  have hRT : RlT M9 := rl_fr fp10 (by decide) hRT
  have hRS : RlS M9 := rs_fr hIp fp10 (by decide) (by decide) (by decide) (by unfold No5; decide) (by unfold NoI No5; decide) hRS
  refine z_istore F dL_law_599 (by decide) (ls' := [(6, ii v8), (5, ii v3), (4, ii y), (0, .ref b), (1, .ref (ad 0)), (2, .ref (ad 131)), (3, .ref (ad 151))]) rfl ?_
  refine z_goto (tgt := 1691) F dL_law_601 (by decide +kernel) ?_
  refine z_iincN F dL_law_1691 (q := 2) rfl (by decide) (fun w e => ?_)
  subst e
  refine z_eq (ls' := [(4, ii (y + 6)), (6, ii v8), (5, ii v3), (0, .ref b), (1, .ref (ad 0)), (2, .ref (ad 131)), (3, .ref (ad 151))]) rfl rfl rfl ?_
  refine z_goto (tgt := 23) F dL_law_1694 (by decide +kernel) ?_
  refine z_loc [0, 3, 4, 5, 6] (ls' := [(4, ii (y + 6)), (0, .ref b), (1, .ref (ad 0)), (2, .ref (ad 131)), (3, .ref (ad 151))]) rfl ?_
  refine z_wide (n1 := nk + 6) (s1 := sk + 36) (by omega) (by omega) ?_
  exact ih _ ⟨hI, hW⟩ ⟨⟨hRT, hRS⟩, hRG⟩
set_option maxRecDepth 4000 in
theorem law_c10 {p : Program} {l : Launch} {e : Env} {s : State} {m : MethodId} {below : List Frame} {meth : Method} {c : Code} {b L : Nat} {xs : Nat → Int32} {D : va_G} {cy : Nat → ClassId} {ad : Nat → Nat} {A : Nat → Prop} (hlT : l.stackTraces = false) (F : FxM D cy ad p m c cL_law 8 s #[Value.ref b] RL A) (hX : va_X b L xs s s.heap) (hbl : b < s.heap.size) (hbA : ¬ A b) (hL : L ≤ 3072) (y : Int) (hy0 : 0 ≤ y) (hy1 : y + 6 ≤ (L : Int)) (nk sk : Nat) (hnk : nk ≤ 9000 ∧ sk ≤ 90000) (M : Mem) (hJ : Iw M) (hR : RlD M ∧ RlG M) (ih : ∀ M' : Mem, Iw M' → (RlD M' ∧ RlG M') → Z D cy ad p l e room_1 s m #[Value.ref b] below meth c A 8 (nk + 6) (sk + 36) (lw_Z below #[Value.ref b] s) 23 [(4, ii (y + 6)), (0, .ref b), (1, .ref (ad 0)), (2, .ref (ad 131)), (3, .ref (ad 151))] [] M') : Z D cy ad p l e room_1 s m #[Value.ref b] below meth c A 8 nk sk (lw_Z below #[Value.ref b] s) 604 [(4, ii y), (0, .ref b), (1, .ref (ad 0)), (2, .ref (ad 131)), (3, .ref (ad 151))] [] M := by
  obtain ⟨hI, hW⟩ := hJ
  have hRT := hR.1.1
  have hRS := hR.1.2
  have hRG := hR.2
  refine z_aload_n F dL_law_604 rfl (q := 2) rfl ?_
  refine z_aload_n F dL_law_605 rfl (q := 1) rfl ?_
  refine z_iload F dL_law_606 (q := 0) rfl ?_
  refine z_iconst F dL_law_608 ?_
  refine z_iadd F dL_law_609 ?_
  refine z_sld F hX hbl hbA hL (by omega) (by omega) dL_law_610 (fun v1 ev1 rv1 => ?_)
  refine z_aload_n F dL_law_611 rfl (q := 1) rfl ?_
  refine z_iload F dL_law_612 (q := 0) rfl ?_
  refine z_iconst F dL_law_614 ?_
  refine z_iadd F dL_law_615 ?_
  refine z_sld F hX hbl hbA hL (by omega) (by omega) dL_law_616 (fun v2 ev2 rv2 => ?_)
  have hIp := hI
  refine zl_i (rest := []) F (k_X11_why l M ⟨hI, hW⟩ v1 (by omega) (by omega) v2 (by omega) (by omega)) cs_L_161 (T := TX11) (N := 14) (ci := 11) rfl gs_0 ⟨Nat.le_of_ble_eq_true rfl, Nat.le_of_ble_eq_true rfl⟩ ⟨show _ ≤ 601024 by omega, show _ ≤ 7293034 by omega⟩ rfl rfl rfl (Nat.le_of_ble_eq_true rfl) dL_law_617 (fun v3 M4 rv3 hI p5 => ?_)
  obtain ⟨hI, hW⟩ := hI
  obtain ⟨⟨av3, bv3⟩, rfl⟩ := p5
  refine z_pop F dL_law_620 rfl ?_
  refine z_aload_n F dL_law_621 rfl (q := 3) rfl ?_
  refine z_aload_n F dL_law_622 rfl (q := 1) rfl ?_
  refine z_iload F dL_law_623 (q := 0) rfl ?_
  refine z_iconst F dL_law_625 ?_
  refine z_iadd F dL_law_626 ?_
  refine z_sld F hX hbl hbA hL (by omega) (by omega) dL_law_627 (fun v6 ev6 rv6 => ?_)
  have zv6 : v1 = v6 := ev1.trans ev6.symm
  subst zv6
  refine z_aload_n F dL_law_628 rfl (q := 1) rfl ?_
  refine z_iload F dL_law_629 (q := 0) rfl ?_
  refine z_iconst F dL_law_631 ?_
  refine z_iadd F dL_law_632 ?_
  refine z_sld F hX hbl hbA hL (by omega) (by omega) dL_law_633 (fun v7 ev7 rv7 => ?_)
  have zv7 : v2 = v7 := ev2.trans ev7.symm
  subst zv7
  have hIp := hI
  refine zl_i (rest := []) F (k_X12_why l M ⟨hI, hW⟩ v1 (by omega) (by omega) v2 (by omega) (by omega)) cs_L_164 (T := TX12) (N := 44) (ci := 12) rfl gs_131 ⟨Nat.le_of_ble_eq_true rfl, Nat.le_of_ble_eq_true rfl⟩ ⟨show _ ≤ 601024 by omega, show _ ≤ 7293034 by omega⟩ rfl rfl rfl (Nat.le_of_ble_eq_true rfl) dL_law_634 (fun v8 M9 rv8 hI p10 => ?_)
  obtain ⟨hI, hW⟩ := hI
  obtain ⟨⟨av8, bv8⟩, fp10⟩ := p10
  have tM9_0_1 : M9 0 1 = M 0 1 := fp10.at (by decide)
  have tM9_131_6 : M9 131 6 = M 131 6 := fp10.t6 (by decide)
  have hRG : RlG M9 := rg_fr hIp fp10 (by unfold No5; decide) (by unfold NoI No5; decide) (by unfold NoG; decide) hRG
  have hRT : RlT M9 := rl_fr fp10 (by decide) hRT
  have hRS : RlS M9 := rs_fr hIp fp10 (by decide) (by decide) (by decide) (by unfold No5; decide) (by unfold NoI No5; decide) hRS
  refine z_pop F dL_law_637 rfl ?_
  refine z_goto (tgt := 1691) F dL_law_638 (by decide +kernel) ?_
  refine z_iincN F dL_law_1691 (q := 0) rfl (by decide) (fun w e => ?_)
  subst e
  refine z_eq (ls' := [(4, ii (y + 6)), (0, .ref b), (1, .ref (ad 0)), (2, .ref (ad 131)), (3, .ref (ad 151))]) rfl rfl rfl ?_
  refine z_goto (tgt := 23) F dL_law_1694 (by decide +kernel) ?_
  refine z_loc [0, 1, 2, 3, 4] (ls' := [(4, ii (y + 6)), (0, .ref b), (1, .ref (ad 0)), (2, .ref (ad 131)), (3, .ref (ad 151))]) rfl ?_
  refine z_wide (n1 := nk + 6) (s1 := sk + 36) (by omega) (by omega) ?_
  exact ih _ ⟨hI, hW⟩ ⟨⟨hRT, hRS⟩, hRG⟩
set_option maxRecDepth 4000 in
theorem law_c11 {p : Program} {l : Launch} {e : Env} {s : State} {m : MethodId} {below : List Frame} {meth : Method} {c : Code} {b L : Nat} {xs : Nat → Int32} {D : va_G} {cy : Nat → ClassId} {ad : Nat → Nat} {A : Nat → Prop} (hlT : l.stackTraces = false) (F : FxM D cy ad p m c cL_law 8 s #[Value.ref b] RL A) (hX : va_X b L xs s s.heap) (hbl : b < s.heap.size) (hbA : ¬ A b) (hL : L ≤ 3072) (y : Int) (hy0 : 0 ≤ y) (hy1 : y + 6 ≤ (L : Int)) (nk sk : Nat) (hnk : nk ≤ 9000 ∧ sk ≤ 90000) (M : Mem) (hJ : Iw M) (hR : RlD M ∧ RlG M) (ih : ∀ M' : Mem, Iw M' → (RlD M' ∧ RlG M') → Z D cy ad p l e room_1 s m #[Value.ref b] below meth c A 8 (nk + 6) (sk + 36) (lw_Z below #[Value.ref b] s) 23 [(4, ii (y + 6)), (0, .ref b), (1, .ref (ad 0)), (2, .ref (ad 131)), (3, .ref (ad 151))] [] M') : Z D cy ad p l e room_1 s m #[Value.ref b] below meth c A 8 nk sk (lw_Z below #[Value.ref b] s) 641 [(4, ii y), (0, .ref b), (1, .ref (ad 0)), (2, .ref (ad 131)), (3, .ref (ad 151))] [] M := by
  obtain ⟨hI, hW⟩ := hJ
  have hRT := hR.1.1
  have hRS := hR.1.2
  have hRG := hR.2
  refine z_aload_n F dL_law_641 rfl (q := 2) rfl ?_
  refine z_aload_n F dL_law_642 rfl (q := 1) rfl ?_
  refine z_iload F dL_law_643 (q := 0) rfl ?_
  refine z_iconst F dL_law_645 ?_
  refine z_iadd F dL_law_646 ?_
  refine z_sld F hX hbl hbA hL (by omega) (by omega) dL_law_647 (fun v1 ev1 rv1 => ?_)
  refine z_aload_n F dL_law_648 rfl (q := 1) rfl ?_
  refine z_iload F dL_law_649 (q := 0) rfl ?_
  refine z_iconst F dL_law_651 ?_
  refine z_iadd F dL_law_652 ?_
  refine z_sld F hX hbl hbA hL (by omega) (by omega) dL_law_653 (fun v2 ev2 rv2 => ?_)
  have hIp := hI
  refine zl_i (rest := []) F (k_X11_move l M ⟨hI, hW⟩ v1 (by omega) (by omega) v2 (by omega) (by omega)) cs_L_165 (T := TX11) (N := 14) (ci := 11) rfl gs_0 ⟨Nat.le_of_ble_eq_true rfl, Nat.le_of_ble_eq_true rfl⟩ ⟨show _ ≤ 601024 by omega, show _ ≤ 7293034 by omega⟩ rfl rfl rfl (Nat.le_of_ble_eq_true rfl) dL_law_654 (fun v3 M4 rv3 hI p5 => ?_)
  obtain ⟨hI, hW⟩ := hI
  obtain ⟨⟨av3, bv3⟩, fp5⟩ := p5
  have tM4_0_1 : M4 0 1 = M 0 1 := fp5.at (by decide)
  have tM4_131_6 : M4 131 6 = M 131 6 := fp5.at (by decide)
  have hRG : RlG M4 := rg_fr hIp fp5 (by unfold No5; decide) (by unfold NoI No5; decide) (by unfold NoG; decide) hRG
  have hRT : RlT M4 := rl_fr fp5 (by decide) hRT
  have hRS : RlS M4 := rs_fr hIp fp5 (by decide) (by decide) (by decide) (by unfold No5; decide) (by unfold NoI No5; decide) hRS
  refine z_pop F dL_law_657 rfl ?_
  refine z_aload_n F dL_law_658 rfl (q := 3) rfl ?_
  refine z_aload_n F dL_law_659 rfl (q := 1) rfl ?_
  refine z_iload F dL_law_660 (q := 0) rfl ?_
  refine z_iconst F dL_law_662 ?_
  refine z_iadd F dL_law_663 ?_
  refine z_sld F hX hbl hbA hL (by omega) (by omega) dL_law_664 (fun v6 ev6 rv6 => ?_)
  have zv6 : v1 = v6 := ev1.trans ev6.symm
  subst zv6
  refine z_aload_n F dL_law_665 rfl (q := 1) rfl ?_
  refine z_iload F dL_law_666 (q := 0) rfl ?_
  refine z_iconst F dL_law_668 ?_
  refine z_iadd F dL_law_669 ?_
  refine z_sld F hX hbl hbA hL (by omega) (by omega) dL_law_670 (fun v7 ev7 rv7 => ?_)
  have zv7 : v2 = v7 := ev2.trans ev7.symm
  subst zv7
  have hIp := hI
  refine zl_i (rest := []) F (k_X12_move l M4 ⟨hI, hW⟩ v1 (by omega) (by omega) v2 (by omega) (by omega)) cs_L_168 (T := TX12) (N := 44) (ci := 12) rfl gs_131 ⟨Nat.le_of_ble_eq_true rfl, Nat.le_of_ble_eq_true rfl⟩ ⟨show _ ≤ 601024 by omega, show _ ≤ 7293034 by omega⟩ rfl rfl rfl (Nat.le_of_ble_eq_true rfl) dL_law_671 (fun v8 M9 rv8 hI p10 => ?_)
  obtain ⟨hI, hW⟩ := hI
  obtain ⟨⟨av8, bv8⟩, fp10⟩ := p10
  have tM9_0_1 : M9 0 1 = M4 0 1 := fp10.at (by decide)
  have tM9_131_6 : M9 131 6 = M4 131 6 := fp10.t6 (by decide)
  have hRG : RlG M9 := rg_fr hIp fp10 (by unfold No5; decide) (by unfold NoI No5; decide) (by unfold NoG; decide) hRG
  have hRT : RlT M9 := rl_fr fp10 (by decide) hRT
  have hRS : RlS M9 := rs_fr hIp fp10 (by decide) (by decide) (by decide) (by unfold No5; decide) (by unfold NoI No5; decide) hRS
  refine z_pop F dL_law_674 rfl ?_
  refine z_goto (tgt := 1691) F dL_law_675 (by decide +kernel) ?_
  refine z_iincN F dL_law_1691 (q := 0) rfl (by decide) (fun w e => ?_)
  subst e
  refine z_eq (ls' := [(4, ii (y + 6)), (0, .ref b), (1, .ref (ad 0)), (2, .ref (ad 131)), (3, .ref (ad 151))]) rfl rfl rfl ?_
  refine z_goto (tgt := 23) F dL_law_1694 (by decide +kernel) ?_
  refine z_loc [0, 1, 2, 3, 4] (ls' := [(4, ii (y + 6)), (0, .ref b), (1, .ref (ad 0)), (2, .ref (ad 131)), (3, .ref (ad 151))]) rfl ?_
  refine z_wide (n1 := nk + 6) (s1 := sk + 36) (by omega) (by omega) ?_
  exact ih _ ⟨hI, hW⟩ ⟨⟨hRT, hRS⟩, hRG⟩
set_option maxRecDepth 4000 in
theorem law_c12 {p : Program} {l : Launch} {e : Env} {s : State} {m : MethodId} {below : List Frame} {meth : Method} {c : Code} {b L : Nat} {xs : Nat → Int32} {D : va_G} {cy : Nat → ClassId} {ad : Nat → Nat} {A : Nat → Prop} (hlT : l.stackTraces = false) (F : FxM D cy ad p m c cL_law 8 s #[Value.ref b] RL A) (hX : va_X b L xs s s.heap) (hbl : b < s.heap.size) (hbA : ¬ A b) (hL : L ≤ 3072) (y : Int) (hy0 : 0 ≤ y) (hy1 : y + 6 ≤ (L : Int)) (nk sk : Nat) (hnk : nk ≤ 9000 ∧ sk ≤ 90000) (M : Mem) (hJ : Iw M) (hR : RlD M ∧ RlG M) (ih : ∀ M' : Mem, Iw M' → (RlD M' ∧ RlG M') → Z D cy ad p l e room_1 s m #[Value.ref b] below meth c A 8 (nk + 6) (sk + 36) (lw_Z below #[Value.ref b] s) 23 [(4, ii (y + 6)), (0, .ref b), (1, .ref (ad 0)), (2, .ref (ad 131)), (3, .ref (ad 151))] [] M') : Z D cy ad p l e room_1 s m #[Value.ref b] below meth c A 8 nk sk (lw_Z below #[Value.ref b] s) 678 [(4, ii y), (0, .ref b), (1, .ref (ad 0)), (2, .ref (ad 131)), (3, .ref (ad 151))] [] M := by
  obtain ⟨hI, hW⟩ := hJ
  have hRT := hR.1.1
  have hRS := hR.1.2
  have hRG := hR.2
  refine z_aload_n F dL_law_678 rfl (q := 2) rfl ?_
  refine z_aload_n F dL_law_679 rfl (q := 1) rfl ?_
  refine z_iload F dL_law_680 (q := 0) rfl ?_
  refine z_iconst F dL_law_682 ?_
  refine z_iadd F dL_law_683 ?_
  refine z_sld F hX hbl hbA hL (by omega) (by omega) dL_law_684 (fun v1 ev1 rv1 => ?_)
  refine z_aload_n F dL_law_685 rfl (q := 4) rfl ?_
  have hIp := hI
  refine zh_i (rest := []) F (k_L_days l hlT M ⟨hI, hW⟩ v1 (by omega) (by omega)) cs_L_169 ⟨Nat.le_of_ble_eq_true rfl, Nat.le_of_ble_eq_true rfl⟩ ⟨show _ ≤ 601024 by omega, show _ ≤ 7293034 by omega⟩ rfl rfl rfl (Nat.le_of_ble_eq_true rfl) dL_law_686 (fun v2 M3 rv2 hI p4 => ?_)
  obtain ⟨hI, hW⟩ := hI
  obtain ⟨fp4, xp4⟩ := p4
  have tM3_0_1 : M3 0 1 = M 0 1 := fp4.at (by decide)
  have tM3_131_6 : M3 131 6 = M 131 6 := fp4.at (by decide)
  have hRG : RlG M3 := rg_fr hIp fp4 (by unfold No5; decide) (by unfold NoI No5; decide) (by unfold NoG; decide) hRG
  have hRT : RlT M3 := rl_fr fp4 (by decide) hRT
  have hRS : RlS M3 := rs_fr hIp fp4 (by decide) (by decide) (by decide) (by unfold No5; decide) (by unfold NoI No5; decide) hRS
  refine z_istore F dL_law_689 (by decide) (ls' := [(5, ii v2), (4, ii y), (0, .ref b), (1, .ref (ad 0)), (2, .ref (ad 131)), (3, .ref (ad 151))]) rfl ?_
  refine z_aload_n F dL_law_691 rfl (q := 4) rfl ?_
  refine z_aload_n F dL_law_692 rfl (q := 2) rfl ?_
  refine z_iload F dL_law_693 (q := 1) rfl ?_
  refine z_iconst F dL_law_695 ?_
  refine z_iadd F dL_law_696 ?_
  refine z_sld F hX hbl hbA hL (by omega) (by omega) dL_law_697 (fun v5 ev5 rv5 => ?_)
  have zv5 : v1 = v5 := ev1.trans ev5.symm
  subst zv5
  have hIp := hI
  refine zl_i (rest := []) F (k_X12_days l M3 ⟨hI, hW⟩ v1 (by omega) (by omega)) cs_L_171 (T := TX12) (N := 44) (ci := 12) rfl gs_131 ⟨Nat.le_of_ble_eq_true rfl, Nat.le_of_ble_eq_true rfl⟩ ⟨show _ ≤ 601024 by omega, show _ ≤ 7293034 by omega⟩ rfl rfl rfl (Nat.le_of_ble_eq_true rfl) dL_law_698 (fun v6 M7 rv6 hI p8 => ?_)
  obtain ⟨hI, hW⟩ := hI
  obtain ⟨⟨av6, bv6⟩, fp8⟩ := p8
  have tM7_0_1 : M7 0 1 = M3 0 1 := fp8.at (by decide)
  have tM7_131_6 : M7 131 6 = M3 131 6 := fp8.t6 (by decide)
  have hRG : RlG M7 := rg_fr hIp fp8 (by unfold No5; decide) (by unfold NoI No5; decide) (by unfold NoG; decide) hRG
  have hRT : RlT M7 := rl_fr fp8 (by decide) hRT
  have hRS : RlS M7 := rs_fr hIp fp8 (by decide) (by decide) (by decide) (by unfold No5; decide) (by unfold NoI No5; decide) hRS
  refine z_istore F dL_law_701 (by decide) (ls' := [(6, ii v6), (5, ii v2), (4, ii y), (0, .ref b), (1, .ref (ad 0)), (2, .ref (ad 131)), (3, .ref (ad 151))]) rfl ?_
  refine z_goto (tgt := 1691) F dL_law_703 (by decide +kernel) ?_
  refine z_iincN F dL_law_1691 (q := 2) rfl (by decide) (fun w e => ?_)
  subst e
  refine z_eq (ls' := [(4, ii (y + 6)), (6, ii v6), (5, ii v2), (0, .ref b), (1, .ref (ad 0)), (2, .ref (ad 131)), (3, .ref (ad 151))]) rfl rfl rfl ?_
  refine z_goto (tgt := 23) F dL_law_1694 (by decide +kernel) ?_
  refine z_loc [0, 3, 4, 5, 6] (ls' := [(4, ii (y + 6)), (0, .ref b), (1, .ref (ad 0)), (2, .ref (ad 131)), (3, .ref (ad 151))]) rfl ?_
  refine z_wide (n1 := nk + 6) (s1 := sk + 36) (by omega) (by omega) ?_
  exact ih _ ⟨hI, hW⟩ ⟨⟨hRT, hRS⟩, hRG⟩
set_option maxRecDepth 4000 in
theorem law_c13 {p : Program} {l : Launch} {e : Env} {s : State} {m : MethodId} {below : List Frame} {meth : Method} {c : Code} {b L : Nat} {xs : Nat → Int32} {D : va_G} {cy : Nat → ClassId} {ad : Nat → Nat} {A : Nat → Prop} (hlT : l.stackTraces = false) (F : FxM D cy ad p m c cL_law 8 s #[Value.ref b] RL A) (hX : va_X b L xs s s.heap) (hbl : b < s.heap.size) (hbA : ¬ A b) (hL : L ≤ 3072) (y : Int) (hy0 : 0 ≤ y) (hy1 : y + 6 ≤ (L : Int)) (nk sk : Nat) (hnk : nk ≤ 9000 ∧ sk ≤ 90000) (M : Mem) (hJ : Iw M) (hR : RlD M ∧ RlG M) (ih : ∀ M' : Mem, Iw M' → (RlD M' ∧ RlG M') → Z D cy ad p l e room_1 s m #[Value.ref b] below meth c A 8 (nk + 6) (sk + 36) (lw_Z below #[Value.ref b] s) 23 [(4, ii (y + 6)), (0, .ref b), (1, .ref (ad 0)), (2, .ref (ad 131)), (3, .ref (ad 151))] [] M') : Z D cy ad p l e room_1 s m #[Value.ref b] below meth c A 8 nk sk (lw_Z below #[Value.ref b] s) 706 [(4, ii y), (0, .ref b), (1, .ref (ad 0)), (2, .ref (ad 131)), (3, .ref (ad 151))] [] M := by
  obtain ⟨hI, hW⟩ := hJ
  have hRT := hR.1.1
  have hRS := hR.1.2
  have hRG := hR.2
  refine z_aload_n F dL_law_706 rfl (q := 2) rfl ?_
  refine z_aload_n F dL_law_707 rfl (q := 1) rfl ?_
  refine z_iload F dL_law_708 (q := 0) rfl ?_
  refine z_iconst F dL_law_710 ?_
  refine z_iadd F dL_law_711 ?_
  refine z_sld F hX hbl hbA hL (by omega) (by omega) dL_law_712 (fun v1 ev1 rv1 => ?_)
  refine z_aload_n F dL_law_713 rfl (q := 4) rfl ?_
  have hIp := hI
  refine zh_i (rest := []) F (k_L_undo l hlT M ⟨hI, hW⟩ v1 (by omega) (by omega)) cs_L_172 ⟨Nat.le_of_ble_eq_true rfl, Nat.le_of_ble_eq_true rfl⟩ ⟨show _ ≤ 601024 by omega, show _ ≤ 7293034 by omega⟩ rfl rfl rfl (Nat.le_of_ble_eq_true rfl) dL_law_714 (fun v2 M3 rv2 hI p4 => ?_)
  obtain ⟨hI, hW⟩ := hI
  obtain ⟨fp4, xp4⟩ := p4
  have tM3_0_1 : M3 0 1 = M 0 1 := fp4.at (by decide)
  have tM3_131_6 : M3 131 6 = M 131 6 := fp4.at (by decide)
  have hRG : RlG M3 := rg_fr hIp fp4 (by unfold No5; decide) (by unfold NoI No5; decide) (by unfold NoG; decide) hRG
  have hRT : RlT M3 := rl_fr fp4 (by decide) hRT
  have hRS : RlS M3 := rs_fr hIp fp4 (by decide) (by decide) (by decide) (by unfold No5; decide) (by unfold NoI No5; decide) hRS
  refine z_istore F dL_law_717 (by decide) (ls' := [(5, ii v2), (4, ii y), (0, .ref b), (1, .ref (ad 0)), (2, .ref (ad 131)), (3, .ref (ad 151))]) rfl ?_
  refine z_aload_n F dL_law_719 rfl (q := 4) rfl ?_
  refine z_aload_n F dL_law_720 rfl (q := 2) rfl ?_
  refine z_iload F dL_law_721 (q := 1) rfl ?_
  refine z_iconst F dL_law_723 ?_
  refine z_iadd F dL_law_724 ?_
  refine z_sld F hX hbl hbA hL (by omega) (by omega) dL_law_725 (fun v5 ev5 rv5 => ?_)
  have zv5 : v1 = v5 := ev1.trans ev5.symm
  subst zv5
  have hIp := hI
  refine zl_i (rest := []) F (k_X12_undo l M3 ⟨hI, hW⟩ v1 (by omega) (by omega)) cs_L_174 (T := TX12) (N := 44) (ci := 12) rfl gs_131 ⟨Nat.le_of_ble_eq_true rfl, Nat.le_of_ble_eq_true rfl⟩ ⟨show _ ≤ 601024 by omega, show _ ≤ 7293034 by omega⟩ rfl rfl rfl (Nat.le_of_ble_eq_true rfl) dL_law_726 (fun v6 M7 rv6 hI p8 => ?_)
  obtain ⟨hI, hW⟩ := hI
  obtain ⟨⟨av6, bv6⟩, fp8⟩ := p8
  have tM7_0_1 : M7 0 1 = M3 0 1 := fp8.at (by decide)
  have tM7_131_6 : M7 131 6 = M3 131 6 := fp8.t6 (by decide)
  have hRG : RlG M7 := rg_fr hIp fp8 (by unfold No5; decide) (by unfold NoI No5; decide) (by unfold NoG; decide) hRG
  have hRT : RlT M7 := rl_fr fp8 (by decide) hRT
  have hRS : RlS M7 := rs_fr hIp fp8 (by decide) (by decide) (by decide) (by unfold No5; decide) (by unfold NoI No5; decide) hRS
  refine z_istore F dL_law_729 (by decide) (ls' := [(6, ii v6), (5, ii v2), (4, ii y), (0, .ref b), (1, .ref (ad 0)), (2, .ref (ad 131)), (3, .ref (ad 151))]) rfl ?_
  refine z_goto (tgt := 1691) F dL_law_731 (by decide +kernel) ?_
  refine z_iincN F dL_law_1691 (q := 2) rfl (by decide) (fun w e => ?_)
  subst e
  refine z_eq (ls' := [(4, ii (y + 6)), (6, ii v6), (5, ii v2), (0, .ref b), (1, .ref (ad 0)), (2, .ref (ad 131)), (3, .ref (ad 151))]) rfl rfl rfl ?_
  refine z_goto (tgt := 23) F dL_law_1694 (by decide +kernel) ?_
  refine z_loc [0, 3, 4, 5, 6] (ls' := [(4, ii (y + 6)), (0, .ref b), (1, .ref (ad 0)), (2, .ref (ad 131)), (3, .ref (ad 151))]) rfl ?_
  refine z_wide (n1 := nk + 6) (s1 := sk + 36) (by omega) (by omega) ?_
  exact ih _ ⟨hI, hW⟩ ⟨⟨hRT, hRS⟩, hRG⟩
