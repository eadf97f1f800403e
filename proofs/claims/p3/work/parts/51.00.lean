theorem dL_law_1691 : decode cL_law 1691 = .ok (.iinc 4 6, 3) := by decide +kernel
theorem dL_law_1694 : decode cL_law 1694 = .ok (.goto (-1671), 3) := by decide +kernel
theorem dL_law_224 : decode cL_law 224 = .ok (.aload_n 1, 1) := by decide +kernel
theorem dL_law_225 : decode cL_law 225 = .ok (.aload_n 0, 1) := by decide +kernel
theorem dL_law_226 : decode cL_law 226 = .ok (.iload 4, 2) := by decide +kernel
theorem dL_law_228 : decode cL_law 228 = .ok (.iconst 1, 1) := by decide +kernel
theorem dL_law_229 : decode cL_law 229 = .ok (.iadd, 1) := by decide +kernel
theorem dL_law_230 : decode cL_law 230 = .ok (.iaload, 1) := by decide +kernel
theorem dL_law_231 : decode cL_law 231 = .ok (.aload_n 0, 1) := by decide +kernel
theorem dL_law_232 : decode cL_law 232 = .ok (.iload 4, 2) := by decide +kernel
theorem dL_law_234 : decode cL_law 234 = .ok (.iconst 2, 1) := by decide +kernel
theorem dL_law_235 : decode cL_law 235 = .ok (.iadd, 1) := by decide +kernel
theorem dL_law_236 : decode cL_law 236 = .ok (.iaload, 1) := by decide +kernel
theorem dL_law_237 : decode cL_law 237 = .ok (.aload_n 0, 1) := by decide +kernel
theorem dL_law_238 : decode cL_law 238 = .ok (.iload 4, 2) := by decide +kernel
theorem dL_law_240 : decode cL_law 240 = .ok (.iconst 3, 1) := by decide +kernel
theorem dL_law_241 : decode cL_law 241 = .ok (.iadd, 1) := by decide +kernel
theorem dL_law_242 : decode cL_law 242 = .ok (.iaload, 1) := by decide +kernel
theorem dL_law_243 : decode cL_law 243 = .ok (.aload_n 0, 1) := by decide +kernel
theorem dL_law_244 : decode cL_law 244 = .ok (.iload 4, 2) := by decide +kernel
theorem dL_law_246 : decode cL_law 246 = .ok (.iconst 4, 1) := by decide +kernel
theorem dL_law_247 : decode cL_law 247 = .ok (.iadd, 1) := by decide +kernel
theorem dL_law_248 : decode cL_law 248 = .ok (.iaload, 1) := by decide +kernel
theorem dL_law_249 : decode cL_law 249 = .ok (.aload_n 0, 1) := by decide +kernel
theorem dL_law_250 : decode cL_law 250 = .ok (.iload 4, 2) := by decide +kernel
theorem dL_law_252 : decode cL_law 252 = .ok (.iconst 5, 1) := by decide +kernel
theorem dL_law_253 : decode cL_law 253 = .ok (.iadd, 1) := by decide +kernel
theorem dL_law_254 : decode cL_law 254 = .ok (.iaload, 1) := by decide +kernel
theorem dL_law_255 : decode cL_law 255 = .ok (.invokevirtual 121, 3) := by decide +kernel
theorem dL_law_258 : decode cL_law 258 = .ok (.pop, 1) := by decide +kernel
theorem dL_law_259 : decode cL_law 259 = .ok (.aload_n 2, 1) := by decide +kernel
theorem dL_law_260 : decode cL_law 260 = .ok (.aload_n 0, 1) := by decide +kernel
theorem dL_law_261 : decode cL_law 261 = .ok (.iload 4, 2) := by decide +kernel
theorem dL_law_263 : decode cL_law 263 = .ok (.iconst 1, 1) := by decide +kernel
theorem dL_law_264 : decode cL_law 264 = .ok (.iadd, 1) := by decide +kernel
theorem dL_law_265 : decode cL_law 265 = .ok (.iaload, 1) := by decide +kernel
theorem dL_law_266 : decode cL_law 266 = .ok (.aload_n 0, 1) := by decide +kernel
theorem dL_law_267 : decode cL_law 267 = .ok (.iload 4, 2) := by decide +kernel
theorem dL_law_269 : decode cL_law 269 = .ok (.iconst 2, 1) := by decide +kernel
theorem dL_law_270 : decode cL_law 270 = .ok (.iadd, 1) := by decide +kernel
theorem dL_law_271 : decode cL_law 271 = .ok (.iaload, 1) := by decide +kernel
theorem dL_law_272 : decode cL_law 272 = .ok (.aload_n 0, 1) := by decide +kernel
theorem dL_law_273 : decode cL_law 273 = .ok (.iload 4, 2) := by decide +kernel
theorem dL_law_275 : decode cL_law 275 = .ok (.iconst 3, 1) := by decide +kernel
theorem dL_law_276 : decode cL_law 276 = .ok (.iadd, 1) := by decide +kernel
theorem dL_law_277 : decode cL_law 277 = .ok (.iaload, 1) := by decide +kernel
theorem dL_law_278 : decode cL_law 278 = .ok (.aload_n 0, 1) := by decide +kernel
theorem dL_law_279 : decode cL_law 279 = .ok (.iload 4, 2) := by decide +kernel
theorem dL_law_281 : decode cL_law 281 = .ok (.iconst 4, 1) := by decide +kernel
theorem dL_law_282 : decode cL_law 282 = .ok (.iadd, 1) := by decide +kernel
theorem dL_law_283 : decode cL_law 283 = .ok (.iaload, 1) := by decide +kernel
theorem dL_law_284 : decode cL_law 284 = .ok (.aload_n 0, 1) := by decide +kernel
theorem dL_law_285 : decode cL_law 285 = .ok (.iload 4, 2) := by decide +kernel
theorem dL_law_287 : decode cL_law 287 = .ok (.iconst 5, 1) := by decide +kernel
theorem dL_law_288 : decode cL_law 288 = .ok (.iadd, 1) := by decide +kernel
theorem dL_law_289 : decode cL_law 289 = .ok (.iaload, 1) := by decide +kernel
theorem dL_law_290 : decode cL_law 290 = .ok (.invokevirtual 125, 3) := by decide +kernel
theorem dL_law_293 : decode cL_law 293 = .ok (.pop, 1) := by decide +kernel
theorem dL_law_294 : decode cL_law 294 = .ok (.goto 1397, 3) := by decide +kernel
theorem dL_law_297 : decode cL_law 297 = .ok (.aload_n 1, 1) := by decide +kernel
theorem dL_law_298 : decode cL_law 298 = .ok (.aload_n 0, 1) := by decide +kernel
theorem dL_law_299 : decode cL_law 299 = .ok (.iload 4, 2) := by decide +kernel
theorem dL_law_301 : decode cL_law 301 = .ok (.iconst 1, 1) := by decide +kernel
theorem dL_law_302 : decode cL_law 302 = .ok (.iadd, 1) := by decide +kernel
theorem dL_law_303 : decode cL_law 303 = .ok (.iaload, 1) := by decide +kernel
theorem dL_law_304 : decode cL_law 304 = .ok (.aload_n 3, 1) := by decide +kernel
theorem dL_law_305 : decode cL_law 305 = .ok (.invokestatic 126, 3) := by decide +kernel
theorem dL_law_308 : decode cL_law 308 = .ok (.istore 5, 2) := by decide +kernel
theorem dL_law_310 : decode cL_law 310 = .ok (.aload_n 2, 1) := by decide +kernel
theorem dL_law_311 : decode cL_law 311 = .ok (.aload_n 0, 1) := by decide +kernel
theorem dL_law_312 : decode cL_law 312 = .ok (.iload 4, 2) := by decide +kernel
theorem dL_law_314 : decode cL_law 314 = .ok (.iconst 1, 1) := by decide +kernel
theorem dL_law_315 : decode cL_law 315 = .ok (.iadd, 1) := by decide +kernel
theorem dL_law_316 : decode cL_law 316 = .ok (.iaload, 1) := by decide +kernel
theorem dL_law_317 : decode cL_law 317 = .ok (.invokevirtual 131, 3) := by decide +kernel
theorem dL_law_320 : decode cL_law 320 = .ok (.istore 6, 2) := by decide +kernel
theorem dL_law_322 : decode cL_law 322 = .ok (.aload_n 2, 1) := by decide +kernel
theorem dL_law_323 : decode cL_law 323 = .ok (.invokevirtual 132, 3) := by decide +kernel
theorem dL_law_326 : decode cL_law 326 = .ok (.iload 5, 2) := by decide +kernel
theorem dL_law_328 : decode cL_law 328 = .ok (.if_icmp .eq 5, 3) := by decide +kernel
theorem dL_law_331 : decode cL_law 331 = .ok (.iconst 0, 1) := by decide +kernel
theorem dL_law_333 : decode cL_law 333 = .ok (.iload 5, 2) := by decide +kernel
theorem dL_law_335 : decode cL_law 335 = .ok (.ifCond .ne 15, 3) := by decide +kernel
theorem dL_law_338 : decode cL_law 338 = .ok (.aload_n 3, 1) := by decide +kernel
theorem dL_law_339 : decode cL_law 339 = .ok (.iconst 0, 1) := by decide +kernel
theorem dL_law_340 : decode cL_law 340 = .ok (.laload, 1) := by decide +kernel
theorem dL_law_341 : decode cL_law 341 = .ok (.iload 6, 2) := by decide +kernel
theorem dL_law_343 : decode cL_law 343 = .ok (.i2l, 1) := by decide +kernel
theorem dL_law_344 : decode cL_law 344 = .ok (.lcmp, 1) := by decide +kernel
theorem dL_law_345 : decode cL_law 345 = .ok (.ifCond .eq 5, 3) := by decide +kernel
theorem dL_law_348 : decode cL_law 348 = .ok (.iconst 0, 1) := by decide +kernel
theorem dL_law_350 : decode cL_law 350 = .ok (.goto 1341, 3) := by decide +kernel
theorem dL_law_353 : decode cL_law 353 = .ok (.aload_n 1, 1) := by decide +kernel
theorem dL_law_354 : decode cL_law 354 = .ok (.aload_n 0, 1) := by decide +kernel
theorem dL_law_355 : decode cL_law 355 = .ok (.iload 4, 2) := by decide +kernel
theorem dL_law_357 : decode cL_law 357 = .ok (.iconst 1, 1) := by decide +kernel
theorem dL_law_358 : decode cL_law 358 = .ok (.iadd, 1) := by decide +kernel
theorem dL_law_359 : decode cL_law 359 = .ok (.iaload, 1) := by decide +kernel
theorem dL_law_360 : decode cL_law 360 = .ok (.invokevirtual 135, 3) := by decide +kernel
theorem dL_law_363 : decode cL_law 363 = .ok (.pop, 1) := by decide +kernel
theorem dL_law_364 : decode cL_law 364 = .ok (.aload_n 2, 1) := by decide +kernel
theorem dL_law_365 : decode cL_law 365 = .ok (.aload_n 0, 1) := by decide +kernel
theorem dL_law_366 : decode cL_law 366 = .ok (.iload 4, 2) := by decide +kernel
theorem dL_law_368 : decode cL_law 368 = .ok (.iconst 1, 1) := by decide +kernel
theorem dL_law_369 : decode cL_law 369 = .ok (.iadd, 1) := by decide +kernel
theorem dL_law_370 : decode cL_law 370 = .ok (.iaload, 1) := by decide +kernel
theorem dL_law_371 : decode cL_law 371 = .ok (.invokevirtual 138, 3) := by decide +kernel
theorem dL_law_374 : decode cL_law 374 = .ok (.pop, 1) := by decide +kernel
theorem dL_law_375 : decode cL_law 375 = .ok (.goto 1316, 3) := by decide +kernel
theorem dL_law_378 : decode cL_law 378 = .ok (.aload_n 1, 1) := by decide +kernel
theorem dL_law_379 : decode cL_law 379 = .ok (.aload_n 0, 1) := by decide +kernel
theorem dL_law_380 : decode cL_law 380 = .ok (.iload 4, 2) := by decide +kernel
theorem dL_law_382 : decode cL_law 382 = .ok (.iconst 1, 1) := by decide +kernel
theorem dL_law_383 : decode cL_law 383 = .ok (.iadd, 1) := by decide +kernel
theorem dL_law_384 : decode cL_law 384 = .ok (.iaload, 1) := by decide +kernel
theorem dL_law_385 : decode cL_law 385 = .ok (.aload_n 0, 1) := by decide +kernel
theorem dL_law_386 : decode cL_law 386 = .ok (.iload 4, 2) := by decide +kernel
theorem dL_law_388 : decode cL_law 388 = .ok (.iconst 2, 1) := by decide +kernel
theorem dL_law_389 : decode cL_law 389 = .ok (.iadd, 1) := by decide +kernel
theorem dL_law_390 : decode cL_law 390 = .ok (.iaload, 1) := by decide +kernel
theorem dL_law_391 : decode cL_law 391 = .ok (.aload_n 3, 1) := by decide +kernel
theorem dL_law_392 : decode cL_law 392 = .ok (.invokestatic 139, 3) := by decide +kernel
theorem dL_law_395 : decode cL_law 395 = .ok (.istore 5, 2) := by decide +kernel
theorem dL_law_397 : decode cL_law 397 = .ok (.aload_n 2, 1) := by decide +kernel
theorem dL_law_398 : decode cL_law 398 = .ok (.aload_n 0, 1) := by decide +kernel
theorem dL_law_399 : decode cL_law 399 = .ok (.iload 4, 2) := by decide +kernel
theorem dL_law_401 : decode cL_law 401 = .ok (.iconst 1, 1) := by decide +kernel
theorem dL_law_402 : decode cL_law 402 = .ok (.iadd, 1) := by decide +kernel
theorem dL_law_403 : decode cL_law 403 = .ok (.iaload, 1) := by decide +kernel
theorem dL_law_404 : decode cL_law 404 = .ok (.aload_n 0, 1) := by decide +kernel
theorem dL_law_405 : decode cL_law 405 = .ok (.iload 4, 2) := by decide +kernel
theorem dL_law_407 : decode cL_law 407 = .ok (.iconst 2, 1) := by decide +kernel
theorem dL_law_408 : decode cL_law 408 = .ok (.iadd, 1) := by decide +kernel
theorem dL_law_409 : decode cL_law 409 = .ok (.iaload, 1) := by decide +kernel
theorem dL_law_410 : decode cL_law 410 = .ok (.invokevirtual 142, 3) := by decide +kernel
theorem dL_law_413 : decode cL_law 413 = .ok (.istore 6, 2) := by decide +kernel
theorem dL_law_415 : decode cL_law 415 = .ok (.goto 1276, 3) := by decide +kernel
theorem dL_law_418 : decode cL_law 418 = .ok (.aload_n 1, 1) := by decide +kernel
theorem dL_law_419 : decode cL_law 419 = .ok (.aload_n 0, 1) := by decide +kernel
theorem dL_law_420 : decode cL_law 420 = .ok (.iload 4, 2) := by decide +kernel
theorem dL_law_422 : decode cL_law 422 = .ok (.iconst 1, 1) := by decide +kernel
theorem dL_law_423 : decode cL_law 423 = .ok (.iadd, 1) := by decide +kernel
theorem dL_law_424 : decode cL_law 424 = .ok (.iaload, 1) := by decide +kernel
theorem dL_law_425 : decode cL_law 425 = .ok (.aload_n 0, 1) := by decide +kernel
theorem dL_law_426 : decode cL_law 426 = .ok (.iload 4, 2) := by decide +kernel
theorem dL_law_428 : decode cL_law 428 = .ok (.iconst 2, 1) := by decide +kernel
theorem dL_law_429 : decode cL_law 429 = .ok (.iadd, 1) := by decide +kernel
theorem dL_law_430 : decode cL_law 430 = .ok (.iaload, 1) := by decide +kernel
theorem dL_law_431 : decode cL_law 431 = .ok (.aload_n 3, 1) := by decide +kernel
theorem dL_law_432 : decode cL_law 432 = .ok (.invokestatic 143, 3) := by decide +kernel
theorem dL_law_435 : decode cL_law 435 = .ok (.istore 5, 2) := by decide +kernel
theorem dL_law_437 : decode cL_law 437 = .ok (.aload_n 2, 1) := by decide +kernel
theorem dL_law_438 : decode cL_law 438 = .ok (.aload_n 0, 1) := by decide +kernel
theorem dL_law_439 : decode cL_law 439 = .ok (.iload 4, 2) := by decide +kernel
theorem dL_law_441 : decode cL_law 441 = .ok (.iconst 1, 1) := by decide +kernel
theorem dL_law_442 : decode cL_law 442 = .ok (.iadd, 1) := by decide +kernel
theorem dL_law_443 : decode cL_law 443 = .ok (.iaload, 1) := by decide +kernel
theorem dL_law_444 : decode cL_law 444 = .ok (.aload_n 0, 1) := by decide +kernel
theorem dL_law_445 : decode cL_law 445 = .ok (.iload 4, 2) := by decide +kernel
theorem dL_law_447 : decode cL_law 447 = .ok (.iconst 2, 1) := by decide +kernel
theorem dL_law_448 : decode cL_law 448 = .ok (.iadd, 1) := by decide +kernel
theorem dL_law_449 : decode cL_law 449 = .ok (.iaload, 1) := by decide +kernel
theorem dL_law_450 : decode cL_law 450 = .ok (.invokevirtual 145, 3) := by decide +kernel
theorem dL_law_453 : decode cL_law 453 = .ok (.istore 6, 2) := by decide +kernel
theorem dL_law_455 : decode cL_law 455 = .ok (.goto 1236, 3) := by decide +kernel
theorem dL_law_458 : decode cL_law 458 = .ok (.aload_n 1, 1) := by decide +kernel
theorem dL_law_459 : decode cL_law 459 = .ok (.aload_n 0, 1) := by decide +kernel
theorem dL_law_460 : decode cL_law 460 = .ok (.iload 4, 2) := by decide +kernel
theorem dL_law_462 : decode cL_law 462 = .ok (.iconst 1, 1) := by decide +kernel
theorem dL_law_463 : decode cL_law 463 = .ok (.iadd, 1) := by decide +kernel
theorem dL_law_464 : decode cL_law 464 = .ok (.iaload, 1) := by decide +kernel
theorem dL_law_465 : decode cL_law 465 = .ok (.aload_n 0, 1) := by decide +kernel
theorem dL_law_466 : decode cL_law 466 = .ok (.iload 4, 2) := by decide +kernel
theorem dL_law_468 : decode cL_law 468 = .ok (.iconst 2, 1) := by decide +kernel
theorem dL_law_469 : decode cL_law 469 = .ok (.iadd, 1) := by decide +kernel
theorem dL_law_470 : decode cL_law 470 = .ok (.iaload, 1) := by decide +kernel
theorem dL_law_471 : decode cL_law 471 = .ok (.aload_n 3, 1) := by decide +kernel
theorem dL_law_472 : decode cL_law 472 = .ok (.invokestatic 146, 3) := by decide +kernel
theorem dL_law_475 : decode cL_law 475 = .ok (.istore 5, 2) := by decide +kernel
theorem dL_law_477 : decode cL_law 477 = .ok (.aload_n 2, 1) := by decide +kernel
theorem dL_law_478 : decode cL_law 478 = .ok (.aload_n 0, 1) := by decide +kernel
theorem dL_law_479 : decode cL_law 479 = .ok (.iload 4, 2) := by decide +kernel
theorem dL_law_481 : decode cL_law 481 = .ok (.iconst 1, 1) := by decide +kernel
theorem dL_law_482 : decode cL_law 482 = .ok (.iadd, 1) := by decide +kernel
theorem dL_law_483 : decode cL_law 483 = .ok (.iaload, 1) := by decide +kernel
theorem dL_law_484 : decode cL_law 484 = .ok (.aload_n 0, 1) := by decide +kernel
theorem dL_law_485 : decode cL_law 485 = .ok (.iload 4, 2) := by decide +kernel
theorem dL_law_487 : decode cL_law 487 = .ok (.iconst 2, 1) := by decide +kernel
theorem dL_law_488 : decode cL_law 488 = .ok (.iadd, 1) := by decide +kernel
theorem dL_law_489 : decode cL_law 489 = .ok (.iaload, 1) := by decide +kernel
theorem dL_law_490 : decode cL_law 490 = .ok (.invokevirtual 148, 3) := by decide +kernel
theorem dL_law_493 : decode cL_law 493 = .ok (.istore 6, 2) := by decide +kernel
theorem dL_law_495 : decode cL_law 495 = .ok (.goto 1196, 3) := by decide +kernel
theorem dL_law_498 : decode cL_law 498 = .ok (.aload_n 1, 1) := by decide +kernel
theorem dL_law_499 : decode cL_law 499 = .ok (.aload_n 0, 1) := by decide +kernel
theorem dL_law_500 : decode cL_law 500 = .ok (.iload 4, 2) := by decide +kernel
theorem dL_law_502 : decode cL_law 502 = .ok (.iconst 1, 1) := by decide +kernel
theorem dL_law_503 : decode cL_law 503 = .ok (.iadd, 1) := by decide +kernel
theorem dL_law_504 : decode cL_law 504 = .ok (.iaload, 1) := by decide +kernel
theorem dL_law_505 : decode cL_law 505 = .ok (.aload_n 0, 1) := by decide +kernel
theorem dL_law_506 : decode cL_law 506 = .ok (.iload 4, 2) := by decide +kernel
theorem dL_law_508 : decode cL_law 508 = .ok (.iconst 2, 1) := by decide +kernel
theorem dL_law_509 : decode cL_law 509 = .ok (.iadd, 1) := by decide +kernel
theorem dL_law_510 : decode cL_law 510 = .ok (.iaload, 1) := by decide +kernel
theorem dL_law_511 : decode cL_law 511 = .ok (.aload_n 0, 1) := by decide +kernel
theorem dL_law_512 : decode cL_law 512 = .ok (.iload 4, 2) := by decide +kernel
theorem dL_law_514 : decode cL_law 514 = .ok (.iconst 3, 1) := by decide +kernel
theorem dL_law_515 : decode cL_law 515 = .ok (.iadd, 1) := by decide +kernel
theorem dL_law_516 : decode cL_law 516 = .ok (.iaload, 1) := by decide +kernel
theorem dL_law_517 : decode cL_law 517 = .ok (.ifCond .eq 7, 3) := by decide +kernel
theorem dL_law_520 : decode cL_law 520 = .ok (.iconst 1, 1) := by decide +kernel
theorem dL_law_521 : decode cL_law 521 = .ok (.goto 4, 3) := by decide +kernel
theorem dL_law_524 : decode cL_law 524 = .ok (.iconst 0, 1) := by decide +kernel
theorem dL_law_525 : decode cL_law 525 = .ok (.aload_n 3, 1) := by decide +kernel
theorem dL_law_526 : decode cL_law 526 = .ok (.invokestatic 149, 3) := by decide +kernel
theorem dL_law_529 : decode cL_law 529 = .ok (.istore 5, 2) := by decide +kernel
theorem dL_law_531 : decode cL_law 531 = .ok (.aload_n 2, 1) := by decide +kernel
theorem dL_law_532 : decode cL_law 532 = .ok (.aload_n 0, 1) := by decide +kernel
theorem dL_law_533 : decode cL_law 533 = .ok (.iload 4, 2) := by decide +kernel
theorem dL_law_535 : decode cL_law 535 = .ok (.iconst 1, 1) := by decide +kernel
theorem dL_law_536 : decode cL_law 536 = .ok (.iadd, 1) := by decide +kernel
theorem dL_law_537 : decode cL_law 537 = .ok (.iaload, 1) := by decide +kernel
theorem dL_law_538 : decode cL_law 538 = .ok (.aload_n 0, 1) := by decide +kernel
theorem dL_law_539 : decode cL_law 539 = .ok (.iload 4, 2) := by decide +kernel
theorem dL_law_541 : decode cL_law 541 = .ok (.iconst 2, 1) := by decide +kernel
theorem dL_law_542 : decode cL_law 542 = .ok (.iadd, 1) := by decide +kernel
theorem dL_law_543 : decode cL_law 543 = .ok (.iaload, 1) := by decide +kernel
theorem dL_law_544 : decode cL_law 544 = .ok (.aload_n 0, 1) := by decide +kernel
theorem dL_law_545 : decode cL_law 545 = .ok (.iload 4, 2) := by decide +kernel
theorem dL_law_547 : decode cL_law 547 = .ok (.iconst 3, 1) := by decide +kernel
theorem dL_law_548 : decode cL_law 548 = .ok (.iadd, 1) := by decide +kernel
theorem dL_law_549 : decode cL_law 549 = .ok (.iaload, 1) := by decide +kernel
theorem dL_law_550 : decode cL_law 550 = .ok (.ifCond .eq 7, 3) := by decide +kernel
theorem dL_law_553 : decode cL_law 553 = .ok (.iconst 1, 1) := by decide +kernel
theorem dL_law_554 : decode cL_law 554 = .ok (.goto 4, 3) := by decide +kernel
theorem dL_law_557 : decode cL_law 557 = .ok (.iconst 0, 1) := by decide +kernel
theorem dL_law_558 : decode cL_law 558 = .ok (.invokevirtual 152, 3) := by decide +kernel
theorem dL_law_561 : decode cL_law 561 = .ok (.istore 6, 2) := by decide +kernel
theorem dL_law_563 : decode cL_law 563 = .ok (.goto 1128, 3) := by decide +kernel
theorem dL_law_566 : decode cL_law 566 = .ok (.aload_n 1, 1) := by decide +kernel
theorem dL_law_567 : decode cL_law 567 = .ok (.invokevirtual 153, 3) := by decide +kernel
theorem dL_law_570 : decode cL_law 570 = .ok (.pop, 1) := by decide +kernel
theorem dL_law_571 : decode cL_law 571 = .ok (.aload_n 2, 1) := by decide +kernel
theorem dL_law_572 : decode cL_law 572 = .ok (.invokevirtual 156, 3) := by decide +kernel
theorem dL_law_575 : decode cL_law 575 = .ok (.pop, 1) := by decide +kernel
theorem dL_law_576 : decode cL_law 576 = .ok (.goto 1115, 3) := by decide +kernel
theorem dL_law_579 : decode cL_law 579 = .ok (.aload_n 1, 1) := by decide +kernel
theorem dL_law_580 : decode cL_law 580 = .ok (.invokevirtual 157, 3) := by decide +kernel
theorem dL_law_583 : decode cL_law 583 = .ok (.pop, 1) := by decide +kernel
theorem dL_law_584 : decode cL_law 584 = .ok (.aload_n 2, 1) := by decide +kernel
theorem dL_law_585 : decode cL_law 585 = .ok (.invokevirtual 160, 3) := by decide +kernel
theorem dL_law_588 : decode cL_law 588 = .ok (.pop, 1) := by decide +kernel
theorem dL_law_589 : decode cL_law 589 = .ok (.goto 1102, 3) := by decide +kernel
theorem dL_law_592 : decode cL_law 592 = .ok (.aload_n 1, 1) := by decide +kernel
theorem dL_law_593 : decode cL_law 593 = .ok (.aload_n 0, 1) := by decide +kernel
theorem dL_law_594 : decode cL_law 594 = .ok (.iload 4, 2) := by decide +kernel
theorem dL_law_596 : decode cL_law 596 = .ok (.iconst 1, 1) := by decide +kernel
theorem dL_law_597 : decode cL_law 597 = .ok (.iadd, 1) := by decide +kernel
theorem dL_law_598 : decode cL_law 598 = .ok (.iaload, 1) := by decide +kernel
theorem dL_law_599 : decode cL_law 599 = .ok (.aload_n 0, 1) := by decide +kernel
theorem dL_law_600 : decode cL_law 600 = .ok (.iload 4, 2) := by decide +kernel
theorem dL_law_602 : decode cL_law 602 = .ok (.iconst 2, 1) := by decide +kernel
theorem dL_law_603 : decode cL_law 603 = .ok (.iadd, 1) := by decide +kernel
theorem dL_law_604 : decode cL_law 604 = .ok (.iaload, 1) := by decide +kernel
theorem dL_law_605 : decode cL_law 605 = .ok (.aload_n 3, 1) := by decide +kernel
theorem dL_law_606 : decode cL_law 606 = .ok (.invokestatic 161, 3) := by decide +kernel
theorem dL_law_609 : decode cL_law 609 = .ok (.istore 5, 2) := by decide +kernel
theorem dL_law_611 : decode cL_law 611 = .ok (.aload_n 2, 1) := by decide +kernel
theorem dL_law_612 : decode cL_law 612 = .ok (.aload_n 0, 1) := by decide +kernel
theorem dL_law_613 : decode cL_law 613 = .ok (.iload 4, 2) := by decide +kernel
theorem dL_law_615 : decode cL_law 615 = .ok (.iconst 1, 1) := by decide +kernel
theorem dL_law_616 : decode cL_law 616 = .ok (.iadd, 1) := by decide +kernel
theorem dL_law_617 : decode cL_law 617 = .ok (.iaload, 1) := by decide +kernel
theorem dL_law_618 : decode cL_law 618 = .ok (.aload_n 0, 1) := by decide +kernel
theorem dL_law_619 : decode cL_law 619 = .ok (.iload 4, 2) := by decide +kernel
theorem dL_law_621 : decode cL_law 621 = .ok (.iconst 2, 1) := by decide +kernel
theorem dL_law_622 : decode cL_law 622 = .ok (.iadd, 1) := by decide +kernel
theorem dL_law_623 : decode cL_law 623 = .ok (.iaload, 1) := by decide +kernel
theorem dL_law_624 : decode cL_law 624 = .ok (.invokevirtual 163, 3) := by decide +kernel
theorem dL_law_627 : decode cL_law 627 = .ok (.istore 6, 2) := by decide +kernel
theorem dL_law_629 : decode cL_law 629 = .ok (.goto 1062, 3) := by decide +kernel
theorem dL_law_632 : decode cL_law 632 = .ok (.aload_n 1, 1) := by decide +kernel
theorem dL_law_633 : decode cL_law 633 = .ok (.aload_n 0, 1) := by decide +kernel
theorem dL_law_634 : decode cL_law 634 = .ok (.iload 4, 2) := by decide +kernel
theorem dL_law_636 : decode cL_law 636 = .ok (.iconst 1, 1) := by decide +kernel
theorem dL_law_637 : decode cL_law 637 = .ok (.iadd, 1) := by decide +kernel
theorem dL_law_638 : decode cL_law 638 = .ok (.iaload, 1) := by decide +kernel
theorem dL_law_639 : decode cL_law 639 = .ok (.aload_n 0, 1) := by decide +kernel
theorem dL_law_640 : decode cL_law 640 = .ok (.iload 4, 2) := by decide +kernel
theorem dL_law_642 : decode cL_law 642 = .ok (.iconst 2, 1) := by decide +kernel
theorem dL_law_643 : decode cL_law 643 = .ok (.iadd, 1) := by decide +kernel
theorem dL_law_644 : decode cL_law 644 = .ok (.iaload, 1) := by decide +kernel
theorem dL_law_645 : decode cL_law 645 = .ok (.invokevirtual 164, 3) := by decide +kernel
theorem dL_law_648 : decode cL_law 648 = .ok (.pop, 1) := by decide +kernel
theorem dL_law_649 : decode cL_law 649 = .ok (.aload_n 2, 1) := by decide +kernel
theorem dL_law_650 : decode cL_law 650 = .ok (.aload_n 0, 1) := by decide +kernel
theorem dL_law_651 : decode cL_law 651 = .ok (.iload 4, 2) := by decide +kernel
theorem dL_law_653 : decode cL_law 653 = .ok (.iconst 1, 1) := by decide +kernel
theorem dL_law_654 : decode cL_law 654 = .ok (.iadd, 1) := by decide +kernel
theorem dL_law_655 : decode cL_law 655 = .ok (.iaload, 1) := by decide +kernel
theorem dL_law_656 : decode cL_law 656 = .ok (.aload_n 0, 1) := by decide +kernel
theorem dL_law_657 : decode cL_law 657 = .ok (.iload 4, 2) := by decide +kernel
theorem dL_law_659 : decode cL_law 659 = .ok (.iconst 2, 1) := by decide +kernel
theorem dL_law_660 : decode cL_law 660 = .ok (.iadd, 1) := by decide +kernel
theorem dL_law_661 : decode cL_law 661 = .ok (.iaload, 1) := by decide +kernel
theorem dL_law_662 : decode cL_law 662 = .ok (.invokevirtual 167, 3) := by decide +kernel
theorem dL_law_665 : decode cL_law 665 = .ok (.pop, 1) := by decide +kernel
theorem dL_law_666 : decode cL_law 666 = .ok (.goto 1025, 3) := by decide +kernel
theorem dL_law_669 : decode cL_law 669 = .ok (.aload_n 1, 1) := by decide +kernel
theorem dL_law_670 : decode cL_law 670 = .ok (.aload_n 0, 1) := by decide +kernel
theorem dL_law_671 : decode cL_law 671 = .ok (.iload 4, 2) := by decide +kernel
theorem dL_law_673 : decode cL_law 673 = .ok (.iconst 1, 1) := by decide +kernel
theorem dL_law_674 : decode cL_law 674 = .ok (.iadd, 1) := by decide +kernel
theorem dL_law_675 : decode cL_law 675 = .ok (.iaload, 1) := by decide +kernel
theorem dL_law_676 : decode cL_law 676 = .ok (.aload_n 0, 1) := by decide +kernel
theorem dL_law_677 : decode cL_law 677 = .ok (.iload 4, 2) := by decide +kernel
theorem dL_law_679 : decode cL_law 679 = .ok (.iconst 2, 1) := by decide +kernel
theorem dL_law_680 : decode cL_law 680 = .ok (.iadd, 1) := by decide +kernel
theorem dL_law_681 : decode cL_law 681 = .ok (.iaload, 1) := by decide +kernel
theorem dL_law_682 : decode cL_law 682 = .ok (.invokevirtual 168, 3) := by decide +kernel
theorem dL_law_685 : decode cL_law 685 = .ok (.pop, 1) := by decide +kernel
theorem dL_law_686 : decode cL_law 686 = .ok (.aload_n 2, 1) := by decide +kernel
theorem dL_law_687 : decode cL_law 687 = .ok (.aload_n 0, 1) := by decide +kernel
theorem dL_law_688 : decode cL_law 688 = .ok (.iload 4, 2) := by decide +kernel
theorem dL_law_690 : decode cL_law 690 = .ok (.iconst 1, 1) := by decide +kernel
theorem dL_law_691 : decode cL_law 691 = .ok (.iadd, 1) := by decide +kernel
theorem dL_law_692 : decode cL_law 692 = .ok (.iaload, 1) := by decide +kernel
theorem dL_law_693 : decode cL_law 693 = .ok (.aload_n 0, 1) := by decide +kernel
theorem dL_law_694 : decode cL_law 694 = .ok (.iload 4, 2) := by decide +kernel
theorem dL_law_696 : decode cL_law 696 = .ok (.iconst 2, 1) := by decide +kernel
theorem dL_law_697 : decode cL_law 697 = .ok (.iadd, 1) := by decide +kernel
theorem dL_law_698 : decode cL_law 698 = .ok (.iaload, 1) := by decide +kernel
theorem dL_law_699 : decode cL_law 699 = .ok (.invokevirtual 171, 3) := by decide +kernel
theorem dL_law_702 : decode cL_law 702 = .ok (.pop, 1) := by decide +kernel
theorem dL_law_703 : decode cL_law 703 = .ok (.goto 988, 3) := by decide +kernel
theorem dL_law_706 : decode cL_law 706 = .ok (.aload_n 1, 1) := by decide +kernel
theorem dL_law_707 : decode cL_law 707 = .ok (.aload_n 0, 1) := by decide +kernel
theorem dL_law_708 : decode cL_law 708 = .ok (.iload 4, 2) := by decide +kernel
theorem dL_law_710 : decode cL_law 710 = .ok (.iconst 1, 1) := by decide +kernel
theorem dL_law_711 : decode cL_law 711 = .ok (.iadd, 1) := by decide +kernel
theorem dL_law_712 : decode cL_law 712 = .ok (.iaload, 1) := by decide +kernel
theorem dL_law_713 : decode cL_law 713 = .ok (.aload_n 3, 1) := by decide +kernel
theorem dL_law_714 : decode cL_law 714 = .ok (.invokestatic 172, 3) := by decide +kernel
theorem dL_law_717 : decode cL_law 717 = .ok (.istore 5, 2) := by decide +kernel
theorem dL_law_719 : decode cL_law 719 = .ok (.aload_n 2, 1) := by decide +kernel
theorem dL_law_720 : decode cL_law 720 = .ok (.aload_n 0, 1) := by decide +kernel
theorem dL_law_721 : decode cL_law 721 = .ok (.iload 4, 2) := by decide +kernel
theorem dL_law_723 : decode cL_law 723 = .ok (.iconst 1, 1) := by decide +kernel
theorem dL_law_724 : decode cL_law 724 = .ok (.iadd, 1) := by decide +kernel
theorem dL_law_725 : decode cL_law 725 = .ok (.iaload, 1) := by decide +kernel
theorem dL_law_726 : decode cL_law 726 = .ok (.invokevirtual 174, 3) := by decide +kernel
theorem dL_law_729 : decode cL_law 729 = .ok (.istore 6, 2) := by decide +kernel
theorem dL_law_731 : decode cL_law 731 = .ok (.goto 960, 3) := by decide +kernel
theorem dL_law_734 : decode cL_law 734 = .ok (.aload_n 1, 1) := by decide +kernel
theorem dL_law_735 : decode cL_law 735 = .ok (.aload_n 0, 1) := by decide +kernel
theorem dL_law_736 : decode cL_law 736 = .ok (.iload 4, 2) := by decide +kernel
theorem dL_law_738 : decode cL_law 738 = .ok (.iconst 1, 1) := by decide +kernel
theorem dL_law_739 : decode cL_law 739 = .ok (.iadd, 1) := by decide +kernel
theorem dL_law_740 : decode cL_law 740 = .ok (.iaload, 1) := by decide +kernel
theorem dL_law_741 : decode cL_law 741 = .ok (.aload_n 3, 1) := by decide +kernel
theorem dL_law_742 : decode cL_law 742 = .ok (.invokestatic 175, 3) := by decide +kernel
theorem dL_law_745 : decode cL_law 745 = .ok (.istore 5, 2) := by decide +kernel
theorem dL_law_747 : decode cL_law 747 = .ok (.aload_n 2, 1) := by decide +kernel
theorem dL_law_748 : decode cL_law 748 = .ok (.aload_n 0, 1) := by decide +kernel
theorem dL_law_749 : decode cL_law 749 = .ok (.iload 4, 2) := by decide +kernel
theorem dL_law_751 : decode cL_law 751 = .ok (.iconst 1, 1) := by decide +kernel
theorem dL_law_752 : decode cL_law 752 = .ok (.iadd, 1) := by decide +kernel
theorem dL_law_753 : decode cL_law 753 = .ok (.iaload, 1) := by decide +kernel
theorem dL_law_754 : decode cL_law 754 = .ok (.invokevirtual 177, 3) := by decide +kernel
theorem dL_law_757 : decode cL_law 757 = .ok (.istore 6, 2) := by decide +kernel
theorem dL_law_759 : decode cL_law 759 = .ok (.goto 932, 3) := by decide +kernel
set_option maxRecDepth 4000 in
theorem law_c0 {p : Program} {l : Launch} {e : Env} {s : State} {m : MethodId} {below : List Frame} {meth : Method} {c : Code} {b L : Nat} {xs : Nat → Int32} {D : va_G} {cy : Nat → ClassId} {ad : Nat → Nat} {A : Nat → Prop} (hlT : l.stackTraces = false) (F : FxM D cy ad p m c cL_law 8 s #[Value.ref b] RL A) (hX : va_X b L xs s s.heap) (hbl : b < s.heap.size) (hbA : ¬ A b) (hL : L ≤ 3072) (y : Int) (hy0 : 0 ≤ y) (hy1 : y + 6 ≤ (L : Int)) (nk sk : Nat) (hnk : nk ≤ 9000 ∧ sk ≤ 90000) (M : Mem) (hJ : Iw M) (hR : RlT M) (ih : ∀ M' : Mem, Iw M' → (RlT M') → Z D cy ad p l e room_1 s m #[Value.ref b] below meth c A 8 (nk + 6) (sk + 36) (lw_Z below #[Value.ref b] s) 23 [(4, ii (y + 6)), (0, .ref b), (1, .ref (ad 0)), (2, .ref (ad 131)), (3, .ref (ad 151))] [] M') : Z D cy ad p l e room_1 s m #[Value.ref b] below meth c A 8 nk sk (lw_Z below #[Value.ref b] s) 224 [(4, ii y), (0, .ref b), (1, .ref (ad 0)), (2, .ref (ad 131)), (3, .ref (ad 151))] [] M := by
  obtain ⟨hI, hW⟩ := hJ
  refine z_aload_n F dL_law_224 rfl (q := 2) rfl ?_
  refine z_aload_n F dL_law_225 rfl (q := 1) rfl ?_
  refine z_iload F dL_law_226 (q := 0) rfl ?_
  refine z_iconst F dL_law_228 ?_
  refine z_iadd F dL_law_229 ?_
  refine z_sld F hX hbl hbA hL (by omega) (by omega) dL_law_230 (fun v1 ev1 rv1 => ?_)
  refine z_aload_n F dL_law_231 rfl (q := 1) rfl ?_
  refine z_iload F dL_law_232 (q := 0) rfl ?_
  refine z_iconst F dL_law_234 ?_
  refine z_iadd F dL_law_235 ?_
  refine z_sld F hX hbl hbA hL (by omega) (by omega) dL_law_236 (fun v2 ev2 rv2 => ?_)
  refine z_aload_n F dL_law_237 rfl (q := 1) rfl ?_
  refine z_iload F dL_law_238 (q := 0) rfl ?_
  refine z_iconst F dL_law_240 ?_
  refine z_iadd F dL_law_241 ?_
  refine z_sld F hX hbl hbA hL (by omega) (by omega) dL_law_242 (fun v3 ev3 rv3 => ?_)
  refine z_aload_n F dL_law_243 rfl (q := 1) rfl ?_
  refine z_iload F dL_law_244 (q := 0) rfl ?_
  refine z_iconst F dL_law_246 ?_
  refine z_iadd F dL_law_247 ?_
  refine z_sld F hX hbl hbA hL (by omega) (by omega) dL_law_248 (fun v4 ev4 rv4 => ?_)
  refine z_aload_n F dL_law_249 rfl (q := 1) rfl ?_
  refine z_iload F dL_law_250 (q := 0) rfl ?_
  refine z_iconst F dL_law_252 ?_
  refine z_iadd F dL_law_253 ?_
  refine z_sld F hX hbl hbA hL (by omega) (by omega) dL_law_254 (fun v5 ev5 rv5 => ?_)
  refine zl_i (rest := []) F (k_X11_feed l M ⟨hI, hW⟩ v1 (by omega) (by omega) v2 (by omega) (by omega) v3 (by omega) (by omega) v4 (by omega) (by omega) v5 (by omega) (by omega)) cs_L_121 (T := TX11) (N := 14) (ci := 11) rfl gs_0 ⟨Nat.le_of_ble_eq_true rfl, Nat.le_of_ble_eq_true rfl⟩ ⟨show _ ≤ 601024 by omega, show _ ≤ 7293034 by omega⟩ rfl rfl rfl (Nat.le_of_ble_eq_true rfl) dL_law_255 (fun v6 M7 rv6 hI p8 => ?_)
  obtain ⟨hI, hW⟩ := hI
  obtain ⟨⟨av6, bv6⟩, fp8, xp8, yp8⟩ := p8
  have tM7_131_6 : M7 131 6 = M 131 6 := fp8.at (by decide)
  refine z_pop F dL_law_258 rfl ?_
  refine z_aload_n F dL_law_259 rfl (q := 3) rfl ?_
  refine z_aload_n F dL_law_260 rfl (q := 1) rfl ?_
  refine z_iload F dL_law_261 (q := 0) rfl ?_
  refine z_iconst F dL_law_263 ?_
  refine z_iadd F dL_law_264 ?_
  refine z_sld F hX hbl hbA hL (by omega) (by omega) dL_law_265 (fun v9 ev9 rv9 => ?_)
  have zv9 : v1 = v9 := ev1.trans ev9.symm
  subst zv9
  refine z_aload_n F dL_law_266 rfl (q := 1) rfl ?_
  refine z_iload F dL_law_267 (q := 0) rfl ?_
  refine z_iconst F dL_law_269 ?_
  refine z_iadd F dL_law_270 ?_
  refine z_sld F hX hbl hbA hL (by omega) (by omega) dL_law_271 (fun v10 ev10 rv10 => ?_)
  have zv10 : v2 = v10 := ev2.trans ev10.symm
  subst zv10
  refine z_aload_n F dL_law_272 rfl (q := 1) rfl ?_
  refine z_iload F dL_law_273 (q := 0) rfl ?_
  refine z_iconst F dL_law_275 ?_
  refine z_iadd F dL_law_276 ?_
  refine z_sld F hX hbl hbA hL (by omega) (by omega) dL_law_277 (fun v11 ev11 rv11 => ?_)
  have zv11 : v3 = v11 := ev3.trans ev11.symm
  subst zv11
  refine z_aload_n F dL_law_278 rfl (q := 1) rfl ?_
  refine z_iload F dL_law_279 (q := 0) rfl ?_
  refine z_iconst F dL_law_281 ?_
  refine z_iadd F dL_law_282 ?_
  refine z_sld F hX hbl hbA hL (by omega) (by omega) dL_law_283 (fun v12 ev12 rv12 => ?_)
  have zv12 : v4 = v12 := ev4.trans ev12.symm
  subst zv12
  refine z_aload_n F dL_law_284 rfl (q := 1) rfl ?_
  refine z_iload F dL_law_285 (q := 0) rfl ?_
  refine z_iconst F dL_law_287 ?_
  refine z_iadd F dL_law_288 ?_
  refine z_sld F hX hbl hbA hL (by omega) (by omega) dL_law_289 (fun v13 ev13 rv13 => ?_)
  have zv13 : v5 = v13 := ev5.trans ev13.symm
  subst zv13
  refine zl_i (rest := []) F (k_X12_feed l M7 ⟨hI, hW⟩ v1 (by omega) (by omega) v2 (by omega) (by omega) v3 (by omega) (by omega) v4 (by omega) (by omega) v5 (by omega) (by omega)) cs_L_125 (T := TX12) (N := 44) (ci := 12) rfl gs_131 ⟨Nat.le_of_ble_eq_true rfl, Nat.le_of_ble_eq_true rfl⟩ ⟨show _ ≤ 601024 by omega, show _ ≤ 7293034 by omega⟩ rfl rfl rfl (Nat.le_of_ble_eq_true rfl) dL_law_290 (fun v14 M15 rv14 hI p16 => ?_)
  obtain ⟨hI, hW⟩ := hI
  obtain ⟨⟨av14, bv14⟩, fp16, xp16, yp16⟩ := p16
  have tM15_0_1 : M15 0 1 = M7 0 1 := fp16.at (by decide)
  have hR : RlT M15 := rl_feed hR (by omega) yp8.1 yp8.2 (fp8.at (by decide)) (fun j => fp8.at (by decide)) (by omega) yp16.1 yp16.2 (fp16.at (by decide)) (fun j => fp16.at (by decide))
  refine z_pop F dL_law_293 rfl ?_
  refine z_goto (tgt := 1691) F dL_law_294 (by decide +kernel) ?_
  refine z_iincN F dL_law_1691 (q := 0) rfl (by decide) (fun w e => ?_)
  subst e
  refine z_eq (ls' := [(4, ii (y + 6)), (0, .ref b), (1, .ref (ad 0)), (2, .ref (ad 131)), (3, .ref (ad 151))]) rfl rfl rfl ?_
  refine z_goto (tgt := 23) F dL_law_1694 (by decide +kernel) ?_
  refine z_loc [0, 1, 2, 3, 4] (ls' := [(4, ii (y + 6)), (0, .ref b), (1, .ref (ad 0)), (2, .ref (ad 131)), (3, .ref (ad 151))]) rfl ?_
  refine z_wide (n1 := nk + 6) (s1 := sk + 36) (by omega) (by omega) ?_
  exact ih _ ⟨hI, hW⟩ hR
set_option maxRecDepth 4000 in
theorem law_c1 {p : Program} {l : Launch} {e : Env} {s : State} {m : MethodId} {below : List Frame} {meth : Method} {c : Code} {b L : Nat} {xs : Nat → Int32} {D : va_G} {cy : Nat → ClassId} {ad : Nat → Nat} {A : Nat → Prop} (hlT : l.stackTraces = false) (F : FxM D cy ad p m c cL_law 8 s #[Value.ref b] RL A) (hX : va_X b L xs s s.heap) (hbl : b < s.heap.size) (hbA : ¬ A b) (hL : L ≤ 3072) (y : Int) (hy0 : 0 ≤ y) (hy1 : y + 6 ≤ (L : Int)) (nk sk : Nat) (hnk : nk ≤ 9000 ∧ sk ≤ 90000) (M : Mem) (hJ : Iw M) (hR : RlT M) (ih : ∀ M' : Mem, Iw M' → (RlT M') → Z D cy ad p l e room_1 s m #[Value.ref b] below meth c A 8 (nk + 6) (sk + 36) (lw_Z below #[Value.ref b] s) 23 [(4, ii (y + 6)), (0, .ref b), (1, .ref (ad 0)), (2, .ref (ad 131)), (3, .ref (ad 151))] [] M') : Z D cy ad p l e room_1 s m #[Value.ref b] below meth c A 8 nk sk (lw_Z below #[Value.ref b] s) 297 [(4, ii y), (0, .ref b), (1, .ref (ad 0)), (2, .ref (ad 131)), (3, .ref (ad 151))] [] M := by
  obtain ⟨hI, hW⟩ := hJ
  refine z_aload_n F dL_law_297 rfl (q := 2) rfl ?_
  refine z_aload_n F dL_law_298 rfl (q := 1) rfl ?_
  refine z_iload F dL_law_299 (q := 0) rfl ?_
  refine z_iconst F dL_law_301 ?_
  refine z_iadd F dL_law_302 ?_
  refine z_sld F hX hbl hbA hL (by omega) (by omega) dL_law_303 (fun v1 ev1 rv1 => ?_)
  refine z_aload_n F dL_law_304 rfl (q := 4) rfl ?_
  refine zh_i (rest := []) F (k_L_town l hlT M ⟨hI, hW⟩ v1 (by omega) (by omega)) cs_L_126 ⟨Nat.le_of_ble_eq_true rfl, Nat.le_of_ble_eq_true rfl⟩ ⟨show _ ≤ 601024 by omega, show _ ≤ 7293034 by omega⟩ rfl rfl rfl (Nat.le_of_ble_eq_true rfl) dL_law_305 (fun v2 M3 rv2 hI p4 => ?_)
  obtain ⟨hI, hW⟩ := hI
  obtain ⟨fp4, xp4⟩ := p4
  have tM3_131_6 : M3 131 6 = M 131 6 := fp4.at (by decide)
  refine z_istore F dL_law_308 (by decide) (ls' := [(5, ii v2), (4, ii y), (0, .ref b), (1, .ref (ad 0)), (2, .ref (ad 131)), (3, .ref (ad 151))]) rfl ?_
  refine z_aload_n F dL_law_310 rfl (q := 4) rfl ?_
  refine z_aload_n F dL_law_311 rfl (q := 2) rfl ?_
  refine z_iload F dL_law_312 (q := 1) rfl ?_
  refine z_iconst F dL_law_314 ?_
  refine z_iadd F dL_law_315 ?_
  refine z_sld F hX hbl hbA hL (by omega) (by omega) dL_law_316 (fun v5 ev5 rv5 => ?_)
  have zv5 : v1 = v5 := ev1.trans ev5.symm
  subst zv5
  refine zl_i (rest := []) F (kp_X12_town l M3 ⟨hI, hW⟩ v1 (by omega) (by omega)) cs_L_131 (T := TX12) (N := 44) (ci := 12) rfl gs_131 ⟨Nat.le_of_ble_eq_true rfl, Nat.le_of_ble_eq_true rfl⟩ ⟨show _ ≤ 601024 by omega, show _ ≤ 7293034 by omega⟩ rfl rfl rfl (Nat.le_of_ble_eq_true rfl) dL_law_317 (fun v6 M7 rv6 hI p8 => ?_)
  obtain ⟨hI, hW⟩ := hI
  obtain ⟨⟨av6, bv6⟩, fp8, xp8, yp8⟩ := p8
  have tM7_0_1 : M7 0 1 = M3 0 1 := fp8.at (by decide)
  have hr1 := hR.1
  have ut : v1 ≤ M 0 1 → UTR M3 v1 = UTC M v1 := fun q2 => (show UTR M3 v1 = UTR M v1 from by funext j; unfold UTR; rw [show M3 136 j = M 136 j from fp4.at (by decide)]).trans (utr_utc hR q2)
  have hh : 0 ≤ v1 → v1 ≤ M 0 1 → v6 = ansT (townF (UTC M v1) v1) ∧ M7 131 14 = s_fl (townF (UTC M v1) v1).1 ∧ M7 131 15 = fpC (townF (UTC M v1) v1) := fun q1 q2 => by
    have h9 := yp8 ⟨q1, by omega⟩
    rw [ut q2] at h9
    exact ⟨h9.1, h9.2.1, h9.2.2.1.trans (fp_tc h9.2.2.2)⟩
  have hb14 := hI.at (show Bd 131 14 = (0, 4) from rfl)
  have hc : 0 ≤ v1 → v1 ≤ M 0 1 → ansC (townF (UTC M v1) v1) = ansT (townF (UTC M v1) v1) := fun q1 q2 => ans_ct (by have h9 := (hh q1 q2).2.1; omega)
  have hq2 : M7 151 0 = M3 151 0 := fp8.at (by decide)
  have hR : RlT M7 := ⟨by omega, fun j hj => by rw [show M7 1 j = M 1 j from (fp8.at (by decide) : M7 1 j = _).trans (fp4.at (by decide)), show M7 136 j = M 136 j from (fp8.at (by decide) : M7 136 j = _).trans (fp4.at (by decide))]; exact hR.2 j (by omega)⟩
  refine z_istore F dL_law_320 (by decide) (ls' := [(6, ii v6), (5, ii v2), (4, ii y), (0, .ref b), (1, .ref (ad 0)), (2, .ref (ad 131)), (3, .ref (ad 151))]) rfl ?_
  refine z_aload_n F dL_law_322 rfl (q := 5) rfl ?_
  refine zl_i (rest := []) F (k_X12_thrown l M7 ⟨hI, hW⟩) cs_L_132 (T := TX12) (N := 44) (ci := 12) rfl gs_131 ⟨Nat.le_of_ble_eq_true rfl, Nat.le_of_ble_eq_true rfl⟩ ⟨show _ ≤ 601024 by omega, show _ ≤ 7293034 by omega⟩ rfl rfl rfl (Nat.le_of_ble_eq_true rfl) dL_law_323 (fun v9 M10 rv9 hI p11 => ?_)
  obtain ⟨hI, hW⟩ := hI
  obtain ⟨⟨av9, bv9⟩, rfl, xp11⟩ := p11
  refine z_iload F dL_law_326 (q := 1) rfl ?_
  refine z_icmp_eq (tgt := 333) F dL_law_328 (by decide +kernel) (by omega) (by omega) (fun c12 => ?_) (fun c12 => ?_)
  · refine z_iload F dL_law_333 (q := 1) rfl ?_
    refine z_if_ne (tgt := 350) F dL_law_335 (by decide +kernel) (by omega) (fun c13 => ?_) (fun c13 => ?_)
    · refine z_goto (tgt := 1691) F dL_law_350 (by decide +kernel) ?_
      refine z_iincN F dL_law_1691 (q := 2) rfl (by decide) (fun w e => ?_)
      subst e
      refine z_eq (ls' := [(4, ii (y + 6)), (6, ii v6), (5, ii v2), (0, .ref b), (1, .ref (ad 0)), (2, .ref (ad 131)), (3, .ref (ad 151))]) rfl rfl rfl ?_
      refine z_goto (tgt := 23) F dL_law_1694 (by decide +kernel) ?_
      refine z_loc [0, 3, 4, 5, 6] (ls' := [(4, ii (y + 6)), (0, .ref b), (1, .ref (ad 0)), (2, .ref (ad 131)), (3, .ref (ad 151))]) rfl ?_
      refine z_wide (n1 := nk + 6) (s1 := sk + 36) (by omega) (by omega) ?_
      exact ih _ ⟨hI, hW⟩ hR
    · refine z_aload_n F dL_law_338 rfl (q := 6) rfl ?_
      refine z_iconst F dL_law_339 ?_
      refine z_lald F hI gs_151 (by omega) (by omega) (by decide) bd_151 dL_law_340 (fun v14 (ev14 : v14 = M7 151 0) av14 bv14 => ?_)
      refine z_iload F dL_law_341 (q := 0) rfl ?_
      refine z_i2l F dL_law_343 (by omega) ?_
      refine z_lcmp F dL_law_344 (by omega) (by omega) (fun v15 ev15 => ?_)
      refine z_if_eq (tgt := 350) F dL_law_345 (by decide +kernel) (by omega) (fun c16 => ?_) (fun c16 => ?_)
      · refine z_goto (tgt := 1691) F dL_law_350 (by decide +kernel) ?_
        refine z_iincN F dL_law_1691 (q := 2) rfl (by decide) (fun w e => ?_)
        subst e
        refine z_eq (ls' := [(4, ii (y + 6)), (6, ii v6), (5, ii v2), (0, .ref b), (1, .ref (ad 0)), (2, .ref (ad 131)), (3, .ref (ad 151))]) rfl rfl rfl ?_
        refine z_goto (tgt := 23) F dL_law_1694 (by decide +kernel) ?_
        refine z_loc [0, 3, 4, 5, 6] (ls' := [(4, ii (y + 6)), (0, .ref b), (1, .ref (ad 0)), (2, .ref (ad 131)), (3, .ref (ad 151))]) rfl ?_
        refine z_wide (n1 := nk + 6) (s1 := sk + 36) (by omega) (by omega) ?_
        exact ih _ ⟨hI, hW⟩ hR
      · refine z_iconst F dL_law_348 ?_
        exfalso
        omega
  · refine z_iconst F dL_law_331 ?_
    exfalso
    omega
set_option maxRecDepth 4000 in
theorem law_c2 {p : Program} {l : Launch} {e : Env} {s : State} {m : MethodId} {below : List Frame} {meth : Method} {c : Code} {b L : Nat} {xs : Nat → Int32} {D : va_G} {cy : Nat → ClassId} {ad : Nat → Nat} {A : Nat → Prop} (hlT : l.stackTraces = false) (F : FxM D cy ad p m c cL_law 8 s #[Value.ref b] RL A) (hX : va_X b L xs s s.heap) (hbl : b < s.heap.size) (hbA : ¬ A b) (hL : L ≤ 3072) (y : Int) (hy0 : 0 ≤ y) (hy1 : y + 6 ≤ (L : Int)) (nk sk : Nat) (hnk : nk ≤ 9000 ∧ sk ≤ 90000) (M : Mem) (hJ : Iw M) (hR : RlT M) (ih : ∀ M' : Mem, Iw M' → (RlT M') → Z D cy ad p l e room_1 s m #[Value.ref b] below meth c A 8 (nk + 6) (sk + 36) (lw_Z below #[Value.ref b] s) 23 [(4, ii (y + 6)), (0, .ref b), (1, .ref (ad 0)), (2, .ref (ad 131)), (3, .ref (ad 151))] [] M') : Z D cy ad p l e room_1 s m #[Value.ref b] below meth c A 8 nk sk (lw_Z below #[Value.ref b] s) 353 [(4, ii y), (0, .ref b), (1, .ref (ad 0)), (2, .ref (ad 131)), (3, .ref (ad 151))] [] M := by
  obtain ⟨hI, hW⟩ := hJ
  refine z_aload_n F dL_law_353 rfl (q := 2) rfl ?_
  refine z_aload_n F dL_law_354 rfl (q := 1) rfl ?_
  refine z_iload F dL_law_355 (q := 0) rfl ?_
  refine z_iconst F dL_law_357 ?_
  refine z_iadd F dL_law_358 ?_
  refine z_sld F hX hbl hbA hL (by omega) (by omega) dL_law_359 (fun v1 ev1 rv1 => ?_)
  refine zl_i (rest := []) F (k_X11_fault l M ⟨hI, hW⟩ v1 (by omega) (by omega)) cs_L_135 (T := TX11) (N := 14) (ci := 11) rfl gs_0 ⟨Nat.le_of_ble_eq_true rfl, Nat.le_of_ble_eq_true rfl⟩ ⟨show _ ≤ 601024 by omega, show _ ≤ 7293034 by omega⟩ rfl rfl rfl (Nat.le_of_ble_eq_true rfl) dL_law_360 (fun v2 M3 rv2 hI p4 => ?_)
  obtain ⟨hI, hW⟩ := hI
  obtain ⟨⟨av2, bv2⟩, rfl⟩ := p4
  refine z_pop F dL_law_363 rfl ?_
  refine z_aload_n F dL_law_364 rfl (q := 3) rfl ?_
  refine z_aload_n F dL_law_365 rfl (q := 1) rfl ?_
  refine z_iload F dL_law_366 (q := 0) rfl ?_
  refine z_iconst F dL_law_368 ?_
  refine z_iadd F dL_law_369 ?_
  refine z_sld F hX hbl hbA hL (by omega) (by omega) dL_law_370 (fun v5 ev5 rv5 => ?_)
  have zv5 : v1 = v5 := ev1.trans ev5.symm
  subst zv5
  refine zl_i (rest := []) F (k_X12_fault l M ⟨hI, hW⟩ v1 (by omega) (by omega)) cs_L_138 (T := TX12) (N := 44) (ci := 12) rfl gs_131 ⟨Nat.le_of_ble_eq_true rfl, Nat.le_of_ble_eq_true rfl⟩ ⟨show _ ≤ 601024 by omega, show _ ≤ 7293034 by omega⟩ rfl rfl rfl (Nat.le_of_ble_eq_true rfl) dL_law_371 (fun v6 M7 rv6 hI p8 => ?_)
  obtain ⟨hI, hW⟩ := hI
  obtain ⟨⟨av6, bv6⟩, fp8⟩ := p8
  have tM7_0_1 : M7 0 1 = M 0 1 := fp8.at (by decide)
  have tM7_131_6 : M7 131 6 = M 131 6 := fp8.t6 (by decide)
  have hR : RlT M7 := rl_fr fp8 (by decide) hR
  refine z_pop F dL_law_374 rfl ?_
  refine z_goto (tgt := 1691) F dL_law_375 (by decide +kernel) ?_
  refine z_iincN F dL_law_1691 (q := 0) rfl (by decide) (fun w e => ?_)
  subst e
  refine z_eq (ls' := [(4, ii (y + 6)), (0, .ref b), (1, .ref (ad 0)), (2, .ref (ad 131)), (3, .ref (ad 151))]) rfl rfl rfl ?_
  refine z_goto (tgt := 23) F dL_law_1694 (by decide +kernel) ?_
  refine z_loc [0, 1, 2, 3, 4] (ls' := [(4, ii (y + 6)), (0, .ref b), (1, .ref (ad 0)), (2, .ref (ad 131)), (3, .ref (ad 151))]) rfl ?_
  refine z_wide (n1 := nk + 6) (s1 := sk + 36) (by omega) (by omega) ?_
  exact ih _ ⟨hI, hW⟩ hR
set_option maxRecDepth 4000 in
theorem law_c3 {p : Program} {l : Launch} {e : Env} {s : State} {m : MethodId} {below : List Frame} {meth : Method} {c : Code} {b L : Nat} {xs : Nat → Int32} {D : va_G} {cy : Nat → ClassId} {ad : Nat → Nat} {A : Nat → Prop} (hlT : l.stackTraces = false) (F : FxM D cy ad p m c cL_law 8 s #[Value.ref b] RL A) (hX : va_X b L xs s s.heap) (hbl : b < s.heap.size) (hbA : ¬ A b) (hL : L ≤ 3072) (y : Int) (hy0 : 0 ≤ y) (hy1 : y + 6 ≤ (L : Int)) (nk sk : Nat) (hnk : nk ≤ 9000 ∧ sk ≤ 90000) (M : Mem) (hJ : Iw M) (hR : RlT M) (ih : ∀ M' : Mem, Iw M' → (RlT M') → Z D cy ad p l e room_1 s m #[Value.ref b] below meth c A 8 (nk + 6) (sk + 36) (lw_Z below #[Value.ref b] s) 23 [(4, ii (y + 6)), (0, .ref b), (1, .ref (ad 0)), (2, .ref (ad 131)), (3, .ref (ad 151))] [] M') : Z D cy ad p l e room_1 s m #[Value.ref b] below meth c A 8 nk sk (lw_Z below #[Value.ref b] s) 378 [(4, ii y), (0, .ref b), (1, .ref (ad 0)), (2, .ref (ad 131)), (3, .ref (ad 151))] [] M := by
  obtain ⟨hI, hW⟩ := hJ
  refine z_aload_n F dL_law_378 rfl (q := 2) rfl ?_
  refine z_aload_n F dL_law_379 rfl (q := 1) rfl ?_
  refine z_iload F dL_law_380 (q := 0) rfl ?_
  refine z_iconst F dL_law_382 ?_
  refine z_iadd F dL_law_383 ?_
  refine z_sld F hX hbl hbA hL (by omega) (by omega) dL_law_384 (fun v1 ev1 rv1 => ?_)
  refine z_aload_n F dL_law_385 rfl (q := 1) rfl ?_
  refine z_iload F dL_law_386 (q := 0) rfl ?_
  refine z_iconst F dL_law_388 ?_
  refine z_iadd F dL_law_389 ?_
  refine z_sld F hX hbl hbA hL (by omega) (by omega) dL_law_390 (fun v2 ev2 rv2 => ?_)
  refine z_aload_n F dL_law_391 rfl (q := 4) rfl ?_
  refine zh_i (rest := []) F (k_L_thing l hlT M ⟨hI, hW⟩ v1 (by omega) (by omega) v2 (by omega) (by omega)) cs_L_139 ⟨Nat.le_of_ble_eq_true rfl, Nat.le_of_ble_eq_true rfl⟩ ⟨show _ ≤ 601024 by omega, show _ ≤ 7293034 by omega⟩ rfl rfl rfl (Nat.le_of_ble_eq_true rfl) dL_law_392 (fun v3 M4 rv3 hI p5 => ?_)
  obtain ⟨hI, hW⟩ := hI
  obtain ⟨fp5, xp5⟩ := p5
  have tM4_0_1 : M4 0 1 = M 0 1 := fp5.at (by decide)
  have tM4_131_6 : M4 131 6 = M 131 6 := fp5.at (by decide)
  have hR : RlT M4 := rl_fr fp5 (by decide) hR
  refine z_istore F dL_law_395 (by decide) (ls' := [(5, ii v3), (4, ii y), (0, .ref b), (1, .ref (ad 0)), (2, .ref (ad 131)), (3, .ref (ad 151))]) rfl ?_
  refine z_aload_n F dL_law_397 rfl (q := 4) rfl ?_
  refine z_aload_n F dL_law_398 rfl (q := 2) rfl ?_
  refine z_iload F dL_law_399 (q := 1) rfl ?_
  refine z_iconst F dL_law_401 ?_
  refine z_iadd F dL_law_402 ?_
  refine z_sld F hX hbl hbA hL (by omega) (by omega) dL_law_403 (fun v6 ev6 rv6 => ?_)
  have zv6 : v1 = v6 := ev1.trans ev6.symm
  subst zv6
  refine z_aload_n F dL_law_404 rfl (q := 2) rfl ?_
  refine z_iload F dL_law_405 (q := 1) rfl ?_
  refine z_iconst F dL_law_407 ?_
  refine z_iadd F dL_law_408 ?_
  refine z_sld F hX hbl hbA hL (by omega) (by omega) dL_law_409 (fun v7 ev7 rv7 => ?_)
  have zv7 : v2 = v7 := ev2.trans ev7.symm
  subst zv7
  refine zl_i (rest := []) F (k_X12_thing l M4 ⟨hI, hW⟩ v1 (by omega) (by omega) v2 (by omega) (by omega)) cs_L_142 (T := TX12) (N := 44) (ci := 12) rfl gs_131 ⟨Nat.le_of_ble_eq_true rfl, Nat.le_of_ble_eq_true rfl⟩ ⟨show _ ≤ 601024 by omega, show _ ≤ 7293034 by omega⟩ rfl rfl rfl (Nat.le_of_ble_eq_true rfl) dL_law_410 (fun v8 M9 rv8 hI p10 => ?_)
  obtain ⟨hI, hW⟩ := hI
  obtain ⟨⟨av8, bv8⟩, fp10⟩ := p10
  have tM9_0_1 : M9 0 1 = M4 0 1 := fp10.at (by decide)
  have tM9_131_6 : M9 131 6 = M4 131 6 := fp10.t6 (by decide)
  have hR : RlT M9 := rl_fr fp10 (by decide) hR
  refine z_istore F dL_law_413 (by decide) (ls' := [(6, ii v8), (5, ii v3), (4, ii y), (0, .ref b), (1, .ref (ad 0)), (2, .ref (ad 131)), (3, .ref (ad 151))]) rfl ?_
  refine z_goto (tgt := 1691) F dL_law_415 (by decide +kernel) ?_
  refine z_iincN F dL_law_1691 (q := 2) rfl (by decide) (fun w e => ?_)
  subst e
  refine z_eq (ls' := [(4, ii (y + 6)), (6, ii v8), (5, ii v3), (0, .ref b), (1, .ref (ad 0)), (2, .ref (ad 131)), (3, .ref (ad 151))]) rfl rfl rfl ?_
  refine z_goto (tgt := 23) F dL_law_1694 (by decide +kernel) ?_
  refine z_loc [0, 3, 4, 5, 6] (ls' := [(4, ii (y + 6)), (0, .ref b), (1, .ref (ad 0)), (2, .ref (ad 131)), (3, .ref (ad 151))]) rfl ?_
  refine z_wide (n1 := nk + 6) (s1 := sk + 36) (by omega) (by omega) ?_
  exact ih _ ⟨hI, hW⟩ hR
set_option maxRecDepth 4000 in
theorem law_c4 {p : Program} {l : Launch} {e : Env} {s : State} {m : MethodId} {below : List Frame} {meth : Method} {c : Code} {b L : Nat} {xs : Nat → Int32} {D : va_G} {cy : Nat → ClassId} {ad : Nat → Nat} {A : Nat → Prop} (hlT : l.stackTraces = false) (F : FxM D cy ad p m c cL_law 8 s #[Value.ref b] RL A) (hX : va_X b L xs s s.heap) (hbl : b < s.heap.size) (hbA : ¬ A b) (hL : L ≤ 3072) (y : Int) (hy0 : 0 ≤ y) (hy1 : y + 6 ≤ (L : Int)) (nk sk : Nat) (hnk : nk ≤ 9000 ∧ sk ≤ 90000) (M : Mem) (hJ : Iw M) (hR : RlT M) (ih : ∀ M' : Mem, Iw M' → (RlT M') → Z D cy ad p l e room_1 s m #[Value.ref b] below meth c A 8 (nk + 6) (sk + 36) (lw_Z below #[Value.ref b] s) 23 [(4, ii (y + 6)), (0, .ref b), (1, .ref (ad 0)), (2, .ref (ad 131)), (3, .ref (ad 151))] [] M') : Z D cy ad p l e room_1 s m #[Value.ref b] below meth c A 8 nk sk (lw_Z below #[Value.ref b] s) 418 [(4, ii y), (0, .ref b), (1, .ref (ad 0)), (2, .ref (ad 131)), (3, .ref (ad 151))] [] M := by
  obtain ⟨hI, hW⟩ := hJ
  refine z_aload_n F dL_law_418 rfl (q := 2) rfl ?_
  refine z_aload_n F dL_law_419 rfl (q := 1) rfl ?_
  refine z_iload F dL_law_420 (q := 0) rfl ?_
  refine z_iconst F dL_law_422 ?_
  refine z_iadd F dL_law_423 ?_
  refine z_sld F hX hbl hbA hL (by omega) (by omega) dL_law_424 (fun v1 ev1 rv1 => ?_)
  refine z_aload_n F dL_law_425 rfl (q := 1) rfl ?_
  refine z_iload F dL_law_426 (q := 0) rfl ?_
  refine z_iconst F dL_law_428 ?_
  refine z_iadd F dL_law_429 ?_
  refine z_sld F hX hbl hbA hL (by omega) (by omega) dL_law_430 (fun v2 ev2 rv2 => ?_)
  refine z_aload_n F dL_law_431 rfl (q := 4) rfl ?_
  refine zh_i (rest := []) F (k_L_place l hlT M ⟨hI, hW⟩ v1 (by omega) (by omega) v2 (by omega) (by omega)) cs_L_143 ⟨Nat.le_of_ble_eq_true rfl, Nat.le_of_ble_eq_true rfl⟩ ⟨show _ ≤ 601024 by omega, show _ ≤ 7293034 by omega⟩ rfl rfl rfl (Nat.le_of_ble_eq_true rfl) dL_law_432 (fun v3 M4 rv3 hI p5 => ?_)
  obtain ⟨hI, hW⟩ := hI
  obtain ⟨fp5, xp5⟩ := p5
  have tM4_0_1 : M4 0 1 = M 0 1 := fp5.at (by decide)
  have tM4_131_6 : M4 131 6 = M 131 6 := fp5.at (by decide)
  have hR : RlT M4 := rl_fr fp5 (by decide) hR
  refine z_istore F dL_law_435 (by decide) (ls' := [(5, ii v3), (4, ii y), (0, .ref b), (1, .ref (ad 0)), (2, .ref (ad 131)), (3, .ref (ad 151))]) rfl ?_
  refine z_aload_n F dL_law_437 rfl (q := 4) rfl ?_
  refine z_aload_n F dL_law_438 rfl (q := 2) rfl ?_
  refine z_iload F dL_law_439 (q := 1) rfl ?_
  refine z_iconst F dL_law_441 ?_
  refine z_iadd F dL_law_442 ?_
  refine z_sld F hX hbl hbA hL (by omega) (by omega) dL_law_443 (fun v6 ev6 rv6 => ?_)
  have zv6 : v1 = v6 := ev1.trans ev6.symm
  subst zv6
  refine z_aload_n F dL_law_444 rfl (q := 2) rfl ?_
  refine z_iload F dL_law_445 (q := 1) rfl ?_
  refine z_iconst F dL_law_447 ?_
  refine z_iadd F dL_law_448 ?_
  refine z_sld F hX hbl hbA hL (by omega) (by omega) dL_law_449 (fun v7 ev7 rv7 => ?_)
  have zv7 : v2 = v7 := ev2.trans ev7.symm
  subst zv7
  refine zl_i (rest := []) F (k_X12_place l M4 ⟨hI, hW⟩ v1 (by omega) (by omega) v2 (by omega) (by omega)) cs_L_145 (T := TX12) (N := 44) (ci := 12) rfl gs_131 ⟨Nat.le_of_ble_eq_true rfl, Nat.le_of_ble_eq_true rfl⟩ ⟨show _ ≤ 601024 by omega, show _ ≤ 7293034 by omega⟩ rfl rfl rfl (Nat.le_of_ble_eq_true rfl) dL_law_450 (fun v8 M9 rv8 hI p10 => ?_)
  obtain ⟨hI, hW⟩ := hI
  obtain ⟨⟨av8, bv8⟩, fp10⟩ := p10
  have tM9_0_1 : M9 0 1 = M4 0 1 := fp10.at (by decide)
  have tM9_131_6 : M9 131 6 = M4 131 6 := fp10.t6 (by decide)
  have hR : RlT M9 := rl_fr fp10 (by decide) hR
  refine z_istore F dL_law_453 (by decide) (ls' := [(6, ii v8), (5, ii v3), (4, ii y), (0, .ref b), (1, .ref (ad 0)), (2, .ref (ad 131)), (3, .ref (ad 151))]) rfl ?_
  refine z_goto (tgt := 1691) F dL_law_455 (by decide +kernel) ?_
  refine z_iincN F dL_law_1691 (q := 2) rfl (by decide) (fun w e => ?_)
  subst e
  refine z_eq (ls' := [(4, ii (y + 6)), (6, ii v8), (5, ii v3), (0, .ref b), (1, .ref (ad 0)), (2, .ref (ad 131)), (3, .ref (ad 151))]) rfl rfl rfl ?_
  refine z_goto (tgt := 23) F dL_law_1694 (by decide +kernel) ?_
  refine z_loc [0, 3, 4, 5, 6] (ls' := [(4, ii (y + 6)), (0, .ref b), (1, .ref (ad 0)), (2, .ref (ad 131)), (3, .ref (ad 151))]) rfl ?_
  refine z_wide (n1 := nk + 6) (s1 := sk + 36) (by omega) (by omega) ?_
  exact ih _ ⟨hI, hW⟩ hR
set_option maxRecDepth 4000 in
theorem law_c5 {p : Program} {l : Launch} {e : Env} {s : State} {m : MethodId} {below : List Frame} {meth : Method} {c : Code} {b L : Nat} {xs : Nat → Int32} {D : va_G} {cy : Nat → ClassId} {ad : Nat → Nat} {A : Nat → Prop} (hlT : l.stackTraces = false) (F : FxM D cy ad p m c cL_law 8 s #[Value.ref b] RL A) (hX : va_X b L xs s s.heap) (hbl : b < s.heap.size) (hbA : ¬ A b) (hL : L ≤ 3072) (y : Int) (hy0 : 0 ≤ y) (hy1 : y + 6 ≤ (L : Int)) (nk sk : Nat) (hnk : nk ≤ 9000 ∧ sk ≤ 90000) (M : Mem) (hJ : Iw M) (hR : RlT M) (ih : ∀ M' : Mem, Iw M' → (RlT M') → Z D cy ad p l e room_1 s m #[Value.ref b] below meth c A 8 (nk + 6) (sk + 36) (lw_Z below #[Value.ref b] s) 23 [(4, ii (y + 6)), (0, .ref b), (1, .ref (ad 0)), (2, .ref (ad 131)), (3, .ref (ad 151))] [] M') : Z D cy ad p l e room_1 s m #[Value.ref b] below meth c A 8 nk sk (lw_Z below #[Value.ref b] s) 458 [(4, ii y), (0, .ref b), (1, .ref (ad 0)), (2, .ref (ad 131)), (3, .ref (ad 151))] [] M := by
  obtain ⟨hI, hW⟩ := hJ
  refine z_aload_n F dL_law_458 rfl (q := 2) rfl ?_
  refine z_aload_n F dL_law_459 rfl (q := 1) rfl ?_
  refine z_iload F dL_law_460 (q := 0) rfl ?_
  refine z_iconst F dL_law_462 ?_
  refine z_iadd F dL_law_463 ?_
  refine z_sld F hX hbl hbA hL (by omega) (by omega) dL_law_464 (fun v1 ev1 rv1 => ?_)
  refine z_aload_n F dL_law_465 rfl (q := 1) rfl ?_
  refine z_iload F dL_law_466 (q := 0) rfl ?_
  refine z_iconst F dL_law_468 ?_
  refine z_iadd F dL_law_469 ?_
  refine z_sld F hX hbl hbA hL (by omega) (by omega) dL_law_470 (fun v2 ev2 rv2 => ?_)
  refine z_aload_n F dL_law_471 rfl (q := 4) rfl ?_
  refine zh_i (rest := []) F (k_L_steps l hlT M ⟨hI, hW⟩ v1 (by omega) (by omega) v2 (by omega) (by omega)) cs_L_146 ⟨Nat.le_of_ble_eq_true rfl, Nat.le_of_ble_eq_true rfl⟩ ⟨show _ ≤ 601024 by omega, show _ ≤ 7293034 by omega⟩ rfl rfl rfl (Nat.le_of_ble_eq_true rfl) dL_law_472 (fun v3 M4 rv3 hI p5 => ?_)
  obtain ⟨hI, hW⟩ := hI
  obtain ⟨fp5, xp5⟩ := p5
  have tM4_0_1 : M4 0 1 = M 0 1 := fp5.at (by decide)
  have tM4_131_6 : M4 131 6 = M 131 6 := fp5.at (by decide)
  have hR : RlT M4 := rl_fr fp5 (by decide) hR
  refine z_istore F dL_law_475 (by decide) (ls' := [(5, ii v3), (4, ii y), (0, .ref b), (1, .ref (ad 0)), (2, .ref (ad 131)), (3, .ref (ad 151))]) rfl ?_
  refine z_aload_n F dL_law_477 rfl (q := 4) rfl ?_
  refine z_aload_n F dL_law_478 rfl (q := 2) rfl ?_
  refine z_iload F dL_law_479 (q := 1) rfl ?_
  refine z_iconst F dL_law_481 ?_
  refine z_iadd F dL_law_482 ?_
  refine z_sld F hX hbl hbA hL (by omega) (by omega) dL_law_483 (fun v6 ev6 rv6 => ?_)
  have zv6 : v1 = v6 := ev1.trans ev6.symm
  subst zv6
  refine z_aload_n F dL_law_484 rfl (q := 2) rfl ?_
  refine z_iload F dL_law_485 (q := 1) rfl ?_
  refine z_iconst F dL_law_487 ?_
  refine z_iadd F dL_law_488 ?_
  refine z_sld F hX hbl hbA hL (by omega) (by omega) dL_law_489 (fun v7 ev7 rv7 => ?_)
  have zv7 : v2 = v7 := ev2.trans ev7.symm
  subst zv7
  refine zl_i (rest := []) F (k_X12_steps l M4 ⟨hI, hW⟩ v1 (by omega) (by omega) v2 (by omega) (by omega)) cs_L_148 (T := TX12) (N := 44) (ci := 12) rfl gs_131 ⟨Nat.le_of_ble_eq_true rfl, Nat.le_of_ble_eq_true rfl⟩ ⟨show _ ≤ 601024 by omega, show _ ≤ 7293034 by omega⟩ rfl rfl rfl (Nat.le_of_ble_eq_true rfl) dL_law_490 (fun v8 M9 rv8 hI p10 => ?_)
  obtain ⟨hI, hW⟩ := hI
  obtain ⟨⟨av8, bv8⟩, fp10⟩ := p10
  have tM9_0_1 : M9 0 1 = M4 0 1 := fp10.at (by decide)
  have tM9_131_6 : M9 131 6 = M4 131 6 := fp10.t6 (by decide)
  have hR : RlT M9 := rl_fr fp10 (by decide) hR
  refine z_istore F dL_law_493 (by decide) (ls' := [(6, ii v8), (5, ii v3), (4, ii y), (0, .ref b), (1, .ref (ad 0)), (2, .ref (ad 131)), (3, .ref (ad 151))]) rfl ?_
  refine z_goto (tgt := 1691) F dL_law_495 (by decide +kernel) ?_
  refine z_iincN F dL_law_1691 (q := 2) rfl (by decide) (fun w e => ?_)
  subst e
  refine z_eq (ls' := [(4, ii (y + 6)), (6, ii v8), (5, ii v3), (0, .ref b), (1, .ref (ad 0)), (2, .ref (ad 131)), (3, .ref (ad 151))]) rfl rfl rfl ?_
  refine z_goto (tgt := 23) F dL_law_1694 (by decide +kernel) ?_
  refine z_loc [0, 3, 4, 5, 6] (ls' := [(4, ii (y + 6)), (0, .ref b), (1, .ref (ad 0)), (2, .ref (ad 131)), (3, .ref (ad 151))]) rfl ?_
  refine z_wide (n1 := nk + 6) (s1 := sk + 36) (by omega) (by omega) ?_
  exact ih _ ⟨hI, hW⟩ hR
set_option maxRecDepth 4000 in
theorem law_c6 {p : Program} {l : Launch} {e : Env} {s : State} {m : MethodId} {below : List Frame} {meth : Method} {c : Code} {b L : Nat} {xs : Nat → Int32} {D : va_G} {cy : Nat → ClassId} {ad : Nat → Nat} {A : Nat → Prop} (hlT : l.stackTraces = false) (F : FxM D cy ad p m c cL_law 8 s #[Value.ref b] RL A) (hX : va_X b L xs s s.heap) (hbl : b < s.heap.size) (hbA : ¬ A b) (hL : L ≤ 3072) (y : Int) (hy0 : 0 ≤ y) (hy1 : y + 6 ≤ (L : Int)) (nk sk : Nat) (hnk : nk ≤ 9000 ∧ sk ≤ 90000) (M : Mem) (hJ : Iw M) (hR : RlT M) (ih : ∀ M' : Mem, Iw M' → (RlT M') → Z D cy ad p l e room_1 s m #[Value.ref b] below meth c A 8 (nk + 6) (sk + 36) (lw_Z below #[Value.ref b] s) 23 [(4, ii (y + 6)), (0, .ref b), (1, .ref (ad 0)), (2, .ref (ad 131)), (3, .ref (ad 151))] [] M') : Z D cy ad p l e room_1 s m #[Value.ref b] below meth c A 8 nk sk (lw_Z below #[Value.ref b] s) 498 [(4, ii y), (0, .ref b), (1, .ref (ad 0)), (2, .ref (ad 131)), (3, .ref (ad 151))] [] M := by
  obtain ⟨hI, hW⟩ := hJ
  refine z_aload_n F dL_law_498 rfl (q := 2) rfl ?_
  refine z_aload_n F dL_law_499 rfl (q := 1) rfl ?_
  refine z_iload F dL_law_500 (q := 0) rfl ?_
  refine z_iconst F dL_law_502 ?_
  refine z_iadd F dL_law_503 ?_
  refine z_sld F hX hbl hbA hL (by omega) (by omega) dL_law_504 (fun v1 ev1 rv1 => ?_)
  refine z_aload_n F dL_law_505 rfl (q := 1) rfl ?_
  refine z_iload F dL_law_506 (q := 0) rfl ?_
  refine z_iconst F dL_law_508 ?_
  refine z_iadd F dL_law_509 ?_
  refine z_sld F hX hbl hbA hL (by omega) (by omega) dL_law_510 (fun v2 ev2 rv2 => ?_)
  refine z_aload_n F dL_law_511 rfl (q := 1) rfl ?_
  refine z_iload F dL_law_512 (q := 0) rfl ?_
  refine z_iconst F dL_law_514 ?_
  refine z_iadd F dL_law_515 ?_
  refine z_sld F hX hbl hbA hL (by omega) (by omega) dL_law_516 (fun v3 ev3 rv3 => ?_)
  refine z_if_eq (tgt := 524) F dL_law_517 (by decide +kernel) (by omega) (fun c4 => ?_) (fun c4 => ?_)
  · refine z_iconst F dL_law_524 ?_
    refine z_aload_n F dL_law_525 rfl (q := 4) rfl ?_
    refine zh_i (rest := []) F (k_L_clash l hlT M ⟨hI, hW⟩ v1 (by omega) (by omega) v2 (by omega) (by omega) 0 (by omega) (by omega)) cs_L_149 ⟨Nat.le_of_ble_eq_true rfl, Nat.le_of_ble_eq_true rfl⟩ ⟨show _ ≤ 601024 by omega, show _ ≤ 7293034 by omega⟩ rfl rfl rfl (Nat.le_of_ble_eq_true rfl) dL_law_526 (fun v5 M6 rv5 hI p7 => ?_)
    obtain ⟨hI, hW⟩ := hI
    obtain ⟨fp7, xp7⟩ := p7
    have tM6_0_1 : M6 0 1 = M 0 1 := fp7.at (by decide)
    have tM6_131_6 : M6 131 6 = M 131 6 := fp7.at (by decide)
    have hR : RlT M6 := rl_fr fp7 (by decide) hR
    refine z_istore F dL_law_529 (by decide) (ls' := [(5, ii v5), (4, ii y), (0, .ref b), (1, .ref (ad 0)), (2, .ref (ad 131)), (3, .ref (ad 151))]) rfl ?_
    refine z_aload_n F dL_law_531 rfl (q := 4) rfl ?_
    refine z_aload_n F dL_law_532 rfl (q := 2) rfl ?_
    refine z_iload F dL_law_533 (q := 1) rfl ?_
    refine z_iconst F dL_law_535 ?_
    refine z_iadd F dL_law_536 ?_
    refine z_sld F hX hbl hbA hL (by omega) (by omega) dL_law_537 (fun v8 ev8 rv8 => ?_)
    have zv8 : v1 = v8 := ev1.trans ev8.symm
    subst zv8
    refine z_aload_n F dL_law_538 rfl (q := 2) rfl ?_
    refine z_iload F dL_law_539 (q := 1) rfl ?_
    refine z_iconst F dL_law_541 ?_
    refine z_iadd F dL_law_542 ?_
    refine z_sld F hX hbl hbA hL (by omega) (by omega) dL_law_543 (fun v9 ev9 rv9 => ?_)
    have zv9 : v2 = v9 := ev2.trans ev9.symm
    subst zv9
    refine z_aload_n F dL_law_544 rfl (q := 2) rfl ?_
    refine z_iload F dL_law_545 (q := 1) rfl ?_
    refine z_iconst F dL_law_547 ?_
    refine z_iadd F dL_law_548 ?_
    refine z_sld F hX hbl hbA hL (by omega) (by omega) dL_law_549 (fun v10 ev10 rv10 => ?_)
    have zv10 : v3 = v10 := ev3.trans ev10.symm
    subst zv10
    refine z_if_eq (tgt := 557) F dL_law_550 (by decide +kernel) (by omega) (fun c11 => ?_) (fun c11 => by exfalso; omega)
    refine z_iconst F dL_law_557 ?_
    refine zl_i (rest := []) F (k_X12_clash l M6 ⟨hI, hW⟩ v1 (by omega) (by omega) v2 (by omega) (by omega) 0 (by omega) (by omega)) cs_L_152 (T := TX12) (N := 44) (ci := 12) rfl gs_131 ⟨Nat.le_of_ble_eq_true rfl, Nat.le_of_ble_eq_true rfl⟩ ⟨show _ ≤ 601024 by omega, show _ ≤ 7293034 by omega⟩ rfl rfl rfl (Nat.le_of_ble_eq_true rfl) dL_law_558 (fun v12 M13 rv12 hI p14 => ?_)
    obtain ⟨hI, hW⟩ := hI
    obtain ⟨⟨av12, bv12⟩, fp14⟩ := p14
    have tM13_0_1 : M13 0 1 = M6 0 1 := fp14.at (by decide)
    have tM13_131_6 : M13 131 6 = M6 131 6 := fp14.t6 (by decide)
    have hR : RlT M13 := rl_fr fp14 (by decide) hR
    refine z_istore F dL_law_561 (by decide) (ls' := [(6, ii v12), (5, ii v5), (4, ii y), (0, .ref b), (1, .ref (ad 0)), (2, .ref (ad 131)), (3, .ref (ad 151))]) rfl ?_
    refine z_goto (tgt := 1691) F dL_law_563 (by decide +kernel) ?_
    refine z_iincN F dL_law_1691 (q := 2) rfl (by decide) (fun w e => ?_)
    subst e
    refine z_eq (ls' := [(4, ii (y + 6)), (6, ii v12), (5, ii v5), (0, .ref b), (1, .ref (ad 0)), (2, .ref (ad 131)), (3, .ref (ad 151))]) rfl rfl rfl ?_
    refine z_goto (tgt := 23) F dL_law_1694 (by decide +kernel) ?_
    refine z_loc [0, 3, 4, 5, 6] (ls' := [(4, ii (y + 6)), (0, .ref b), (1, .ref (ad 0)), (2, .ref (ad 131)), (3, .ref (ad 151))]) rfl ?_
    refine z_wide (n1 := nk + 6) (s1 := sk + 36) (by omega) (by omega) ?_
    exact ih _ ⟨hI, hW⟩ hR
  · refine z_iconst F dL_law_520 ?_
    refine z_goto (tgt := 525) F dL_law_521 (by decide +kernel) ?_
    refine z_aload_n F dL_law_525 rfl (q := 4) rfl ?_
    refine zh_i (rest := []) F (k_L_clash l hlT M ⟨hI, hW⟩ v1 (by omega) (by omega) v2 (by omega) (by omega) 1 (by omega) (by omega)) cs_L_149 ⟨Nat.le_of_ble_eq_true rfl, Nat.le_of_ble_eq_true rfl⟩ ⟨show _ ≤ 601024 by omega, show _ ≤ 7293034 by omega⟩ rfl rfl rfl (Nat.le_of_ble_eq_true rfl) dL_law_526 (fun v15 M16 rv15 hI p17 => ?_)
    obtain ⟨hI, hW⟩ := hI
    obtain ⟨fp17, xp17⟩ := p17
    have tM16_0_1 : M16 0 1 = M 0 1 := fp17.at (by decide)
    have tM16_131_6 : M16 131 6 = M 131 6 := fp17.at (by decide)
    have hR : RlT M16 := rl_fr fp17 (by decide) hR
    refine z_istore F dL_law_529 (by decide) (ls' := [(5, ii v15), (4, ii y), (0, .ref b), (1, .ref (ad 0)), (2, .ref (ad 131)), (3, .ref (ad 151))]) rfl ?_
    refine z_aload_n F dL_law_531 rfl (q := 4) rfl ?_
    refine z_aload_n F dL_law_532 rfl (q := 2) rfl ?_
    refine z_iload F dL_law_533 (q := 1) rfl ?_
    refine z_iconst F dL_law_535 ?_
    refine z_iadd F dL_law_536 ?_
    refine z_sld F hX hbl hbA hL (by omega) (by omega) dL_law_537 (fun v18 ev18 rv18 => ?_)
    have zv18 : v1 = v18 := ev1.trans ev18.symm
    subst zv18
    refine z_aload_n F dL_law_538 rfl (q := 2) rfl ?_
    refine z_iload F dL_law_539 (q := 1) rfl ?_
    refine z_iconst F dL_law_541 ?_
    refine z_iadd F dL_law_542 ?_
    refine z_sld F hX hbl hbA hL (by omega) (by omega) dL_law_543 (fun v19 ev19 rv19 => ?_)
    have zv19 : v2 = v19 := ev2.trans ev19.symm
    subst zv19
    refine z_aload_n F dL_law_544 rfl (q := 2) rfl ?_
    refine z_iload F dL_law_545 (q := 1) rfl ?_
    refine z_iconst F dL_law_547 ?_
    refine z_iadd F dL_law_548 ?_
    refine z_sld F hX hbl hbA hL (by omega) (by omega) dL_law_549 (fun v20 ev20 rv20 => ?_)
    have zv20 : v3 = v20 := ev3.trans ev20.symm
    subst zv20
    refine z_if_eq (tgt := 557) F dL_law_550 (by decide +kernel) (by omega) (fun c21 => ?_) (fun c21 => ?_)
    · refine z_iconst F dL_law_557 ?_
      refine zl_i (rest := []) F (k_X12_clash l M16 ⟨hI, hW⟩ v1 (by omega) (by omega) v2 (by omega) (by omega) 0 (by omega) (by omega)) cs_L_152 (T := TX12) (N := 44) (ci := 12) rfl gs_131 ⟨Nat.le_of_ble_eq_true rfl, Nat.le_of_ble_eq_true rfl⟩ ⟨show _ ≤ 601024 by omega, show _ ≤ 7293034 by omega⟩ rfl rfl rfl (Nat.le_of_ble_eq_true rfl) dL_law_558 (fun v22 M23 rv22 hI p24 => ?_)
      obtain ⟨hI, hW⟩ := hI
      obtain ⟨⟨av22, bv22⟩, fp24⟩ := p24
      have tM23_0_1 : M23 0 1 = M16 0 1 := fp24.at (by decide)
      have tM23_131_6 : M23 131 6 = M16 131 6 := fp24.t6 (by decide)
      have hR : RlT M23 := rl_fr fp24 (by decide) hR
      refine z_istore F dL_law_561 (by decide) (ls' := [(6, ii v22), (5, ii v15), (4, ii y), (0, .ref b), (1, .ref (ad 0)), (2, .ref (ad 131)), (3, .ref (ad 151))]) rfl ?_
      refine z_goto (tgt := 1691) F dL_law_563 (by decide +kernel) ?_
      refine z_iincN F dL_law_1691 (q := 2) rfl (by decide) (fun w e => ?_)
      subst e
      refine z_eq (ls' := [(4, ii (y + 6)), (6, ii v22), (5, ii v15), (0, .ref b), (1, .ref (ad 0)), (2, .ref (ad 131)), (3, .ref (ad 151))]) rfl rfl rfl ?_
      refine z_goto (tgt := 23) F dL_law_1694 (by decide +kernel) ?_
      refine z_loc [0, 3, 4, 5, 6] (ls' := [(4, ii (y + 6)), (0, .ref b), (1, .ref (ad 0)), (2, .ref (ad 131)), (3, .ref (ad 151))]) rfl ?_
      refine z_wide (n1 := nk + 6) (s1 := sk + 36) (by omega) (by omega) ?_
      exact ih _ ⟨hI, hW⟩ hR
    · refine z_iconst F dL_law_553 ?_
      refine z_goto (tgt := 558) F dL_law_554 (by decide +kernel) ?_
      refine zl_i (rest := []) F (k_X12_clash l M16 ⟨hI, hW⟩ v1 (by omega) (by omega) v2 (by omega) (by omega) 1 (by omega) (by omega)) cs_L_152 (T := TX12) (N := 44) (ci := 12) rfl gs_131 ⟨Nat.le_of_ble_eq_true rfl, Nat.le_of_ble_eq_true rfl⟩ ⟨show _ ≤ 601024 by omega, show _ ≤ 7293034 by omega⟩ rfl rfl rfl (Nat.le_of_ble_eq_true rfl) dL_law_558 (fun v25 M26 rv25 hI p27 => ?_)
      obtain ⟨hI, hW⟩ := hI
      obtain ⟨⟨av25, bv25⟩, fp27⟩ := p27
      have tM26_0_1 : M26 0 1 = M16 0 1 := fp27.at (by decide)
      have tM26_131_6 : M26 131 6 = M16 131 6 := fp27.t6 (by decide)
      have hR : RlT M26 := rl_fr fp27 (by decide) hR
      refine z_istore F dL_law_561 (by decide) (ls' := [(6, ii v25), (5, ii v15), (4, ii y), (0, .ref b), (1, .ref (ad 0)), (2, .ref (ad 131)), (3, .ref (ad 151))]) rfl ?_
      refine z_goto (tgt := 1691) F dL_law_563 (by decide +kernel) ?_
      refine z_iincN F dL_law_1691 (q := 2) rfl (by decide) (fun w e => ?_)
      subst e
      refine z_eq (ls' := [(4, ii (y + 6)), (6, ii v25), (5, ii v15), (0, .ref b), (1, .ref (ad 0)), (2, .ref (ad 131)), (3, .ref (ad 151))]) rfl rfl rfl ?_
      refine z_goto (tgt := 23) F dL_law_1694 (by decide +kernel) ?_
      refine z_loc [0, 3, 4, 5, 6] (ls' := [(4, ii (y + 6)), (0, .ref b), (1, .ref (ad 0)), (2, .ref (ad 131)), (3, .ref (ad 151))]) rfl ?_
      refine z_wide (n1 := nk + 6) (s1 := sk + 36) (by omega) (by omega) ?_
      exact ih _ ⟨hI, hW⟩ hR
set_option maxRecDepth 4000 in
theorem law_c7 {p : Program} {l : Launch} {e : Env} {s : State} {m : MethodId} {below : List Frame} {meth : Method} {c : Code} {b L : Nat} {xs : Nat → Int32} {D : va_G} {cy : Nat → ClassId} {ad : Nat → Nat} {A : Nat → Prop} (hlT : l.stackTraces = false) (F : FxM D cy ad p m c cL_law 8 s #[Value.ref b] RL A) (hX : va_X b L xs s s.heap) (hbl : b < s.heap.size) (hbA : ¬ A b) (hL : L ≤ 3072) (y : Int) (hy0 : 0 ≤ y) (hy1 : y + 6 ≤ (L : Int)) (nk sk : Nat) (hnk : nk ≤ 9000 ∧ sk ≤ 90000) (M : Mem) (hJ : Iw M) (hR : RlT M) (ih : ∀ M' : Mem, Iw M' → (RlT M') → Z D cy ad p l e room_1 s m #[Value.ref b] below meth c A 8 (nk + 6) (sk + 36) (lw_Z below #[Value.ref b] s) 23 [(4, ii (y + 6)), (0, .ref b), (1, .ref (ad 0)), (2, .ref (ad 131)), (3, .ref (ad 151))] [] M') : Z D cy ad p l e room_1 s m #[Value.ref b] below meth c A 8 nk sk (lw_Z below #[Value.ref b] s) 566 [(4, ii y), (0, .ref b), (1, .ref (ad 0)), (2, .ref (ad 131)), (3, .ref (ad 151))] [] M := by
  obtain ⟨hI, hW⟩ := hJ
  refine z_aload_n F dL_law_566 rfl (q := 2) rfl ?_
  refine zl_i (rest := []) F (k_X11_clashes l M ⟨hI, hW⟩) cs_L_153 (T := TX11) (N := 14) (ci := 11) rfl gs_0 ⟨Nat.le_of_ble_eq_true rfl, Nat.le_of_ble_eq_true rfl⟩ ⟨show _ ≤ 601024 by omega, show _ ≤ 7293034 by omega⟩ rfl rfl rfl (Nat.le_of_ble_eq_true rfl) dL_law_567 (fun v1 M2 rv1 hI p3 => ?_)
  obtain ⟨hI, hW⟩ := hI
  obtain ⟨⟨av1, bv1⟩, rfl⟩ := p3
  refine z_pop F dL_law_570 rfl ?_
  refine z_aload_n F dL_law_571 rfl (q := 3) rfl ?_
  refine zl_i (rest := []) F (k_X12_clashes l M ⟨hI, hW⟩) cs_L_156 (T := TX12) (N := 44) (ci := 12) rfl gs_131 ⟨Nat.le_of_ble_eq_true rfl, Nat.le_of_ble_eq_true rfl⟩ ⟨show _ ≤ 601024 by omega, show _ ≤ 7293034 by omega⟩ rfl rfl rfl (Nat.le_of_ble_eq_true rfl) dL_law_572 (fun v4 M5 rv4 hI p6 => ?_)
  obtain ⟨hI, hW⟩ := hI
  obtain ⟨⟨av4, bv4⟩, fp6⟩ := p6
  have tM5_0_1 : M5 0 1 = M 0 1 := fp6.at (by decide)
  have tM5_131_6 : M5 131 6 = M 131 6 := fp6.t6 (by decide)
  have hR : RlT M5 := rl_fr fp6 (by decide) hR
  refine z_pop F dL_law_575 rfl ?_
  refine z_goto (tgt := 1691) F dL_law_576 (by decide +kernel) ?_
  refine z_iincN F dL_law_1691 (q := 0) rfl (by decide) (fun w e => ?_)
  subst e
  refine z_eq (ls' := [(4, ii (y + 6)), (0, .ref b), (1, .ref (ad 0)), (2, .ref (ad 131)), (3, .ref (ad 151))]) rfl rfl rfl ?_
  refine z_goto (tgt := 23) F dL_law_1694 (by decide +kernel) ?_
  refine z_loc [0, 1, 2, 3, 4] (ls' := [(4, ii (y + 6)), (0, .ref b), (1, .ref (ad 0)), (2, .ref (ad 131)), (3, .ref (ad 151))]) rfl ?_
  refine z_wide (n1 := nk + 6) (s1 := sk + 36) (by omega) (by omega) ?_
  exact ih _ ⟨hI, hW⟩ hR
set_option maxRecDepth 4000 in
theorem law_c8 {p : Program} {l : Launch} {e : Env} {s : State} {m : MethodId} {below : List Frame} {meth : Method} {c : Code} {b L : Nat} {xs : Nat → Int32} {D : va_G} {cy : Nat → ClassId} {ad : Nat → Nat} {A : Nat → Prop} (hlT : l.stackTraces = false) (F : FxM D cy ad p m c cL_law 8 s #[Value.ref b] RL A) (hX : va_X b L xs s s.heap) (hbl : b < s.heap.size) (hbA : ¬ A b) (hL : L ≤ 3072) (y : Int) (hy0 : 0 ≤ y) (hy1 : y + 6 ≤ (L : Int)) (nk sk : Nat) (hnk : nk ≤ 9000 ∧ sk ≤ 90000) (M : Mem) (hJ : Iw M) (hR : RlT M) (ih : ∀ M' : Mem, Iw M' → (RlT M') → Z D cy ad p l e room_1 s m #[Value.ref b] below meth c A 8 (nk + 6) (sk + 36) (lw_Z below #[Value.ref b] s) 23 [(4, ii (y + 6)), (0, .ref b), (1, .ref (ad 0)), (2, .ref (ad 131)), (3, .ref (ad 151))] [] M') : Z D cy ad p l e room_1 s m #[Value.ref b] below meth c A 8 nk sk (lw_Z below #[Value.ref b] s) 579 [(4, ii y), (0, .ref b), (1, .ref (ad 0)), (2, .ref (ad 131)), (3, .ref (ad 151))] [] M := by
  obtain ⟨hI, hW⟩ := hJ
  refine z_aload_n F dL_law_579 rfl (q := 2) rfl ?_
  refine zl_i (rest := []) F (k_X11_firstClash l M ⟨hI, hW⟩) cs_L_157 (T := TX11) (N := 14) (ci := 11) rfl gs_0 ⟨Nat.le_of_ble_eq_true rfl, Nat.le_of_ble_eq_true rfl⟩ ⟨show _ ≤ 601024 by omega, show _ ≤ 7293034 by omega⟩ rfl rfl rfl (Nat.le_of_ble_eq_true rfl) dL_law_580 (fun v1 M2 rv1 hI p3 => ?_)
  obtain ⟨hI, hW⟩ := hI
  obtain ⟨⟨av1, bv1⟩, rfl⟩ := p3
  refine z_pop F dL_law_583 rfl ?_
  refine z_aload_n F dL_law_584 rfl (q := 3) rfl ?_
  refine zl_i (rest := []) F (k_X12_firstClash l M ⟨hI, hW⟩) cs_L_160 (T := TX12) (N := 44) (ci := 12) rfl gs_131 ⟨Nat.le_of_ble_eq_true rfl, Nat.le_of_ble_eq_true rfl⟩ ⟨show _ ≤ 601024 by omega, show _ ≤ 7293034 by omega⟩ rfl rfl rfl (Nat.le_of_ble_eq_true rfl) dL_law_585 (fun v4 M5 rv4 hI p6 => ?_)
  obtain ⟨hI, hW⟩ := hI
  obtain ⟨⟨av4, bv4⟩, fp6⟩ := p6
  have tM5_0_1 : M5 0 1 = M 0 1 := fp6.at (by decide)
  have tM5_131_6 : M5 131 6 = M 131 6 := fp6.t6 (by decide)
  have hR : RlT M5 := rl_fr fp6 (by decide) hR
  refine z_pop F dL_law_588 rfl ?_
  refine z_goto (tgt := 1691) F dL_law_589 (by decide +kernel) ?_
  refine z_iincN F dL_law_1691 (q := 0) rfl (by decide) (fun w e => ?_)
  subst e
  refine z_eq (ls' := [(4, ii (y + 6)), (0, .ref b), (1, .ref (ad 0)), (2, .ref (ad 131)), (3, .ref (ad 151))]) rfl rfl rfl ?_
  refine z_goto (tgt := 23) F dL_law_1694 (by decide +kernel) ?_
  refine z_loc [0, 1, 2, 3, 4] (ls' := [(4, ii (y + 6)), (0, .ref b), (1, .ref (ad 0)), (2, .ref (ad 131)), (3, .ref (ad 151))]) rfl ?_
  refine z_wide (n1 := nk + 6) (s1 := sk + 36) (by omega) (by omega) ?_
  exact ih _ ⟨hI, hW⟩ hR
set_option maxRecDepth 4000 in
theorem law_c9 {p : Program} {l : Launch} {e : Env} {s : State} {m : MethodId} {below : List Frame} {meth : Method} {c : Code} {b L : Nat} {xs : Nat → Int32} {D : va_G} {cy : Nat → ClassId} {ad : Nat → Nat} {A : Nat → Prop} (hlT : l.stackTraces = false) (F : FxM D cy ad p m c cL_law 8 s #[Value.ref b] RL A) (hX : va_X b L xs s s.heap) (hbl : b < s.heap.size) (hbA : ¬ A b) (hL : L ≤ 3072) (y : Int) (hy0 : 0 ≤ y) (hy1 : y + 6 ≤ (L : Int)) (nk sk : Nat) (hnk : nk ≤ 9000 ∧ sk ≤ 90000) (M : Mem) (hJ : Iw M) (hR : RlT M) (ih : ∀ M' : Mem, Iw M' → (RlT M') → Z D cy ad p l e room_1 s m #[Value.ref b] below meth c A 8 (nk + 6) (sk + 36) (lw_Z below #[Value.ref b] s) 23 [(4, ii (y + 6)), (0, .ref b), (1, .ref (ad 0)), (2, .ref (ad 131)), (3, .ref (ad 151))] [] M') : Z D cy ad p l e room_1 s m #[Value.ref b] below meth c A 8 nk sk (lw_Z below #[Value.ref b] s) 592 [(4, ii y), (0, .ref b), (1, .ref (ad 0)), (2, .ref (ad 131)), (3, .ref (ad 151))] [] M := by
  obtain ⟨hI, hW⟩ := hJ
  refine z_aload_n F dL_law_592 rfl (q := 2) rfl ?_
  refine z_aload_n F dL_law_593 rfl (q := 1) rfl ?_
  refine z_iload F dL_law_594 (q := 0) rfl ?_
  refine z_iconst F dL_law_596 ?_
  refine z_iadd F dL_law_597 ?_
  refine z_sld F hX hbl hbA hL (by omega) (by omega) dL_law_598 (fun v1 ev1 rv1 => ?_)
  refine z_aload_n F dL_law_599 rfl (q := 1) rfl ?_
  refine z_iload F dL_law_600 (q := 0) rfl ?_
  refine z_iconst F dL_law_602 ?_
  refine z_iadd F dL_law_603 ?_
  refine z_sld F hX hbl hbA hL (by omega) (by omega) dL_law_604 (fun v2 ev2 rv2 => ?_)
  refine z_aload_n F dL_law_605 rfl (q := 4) rfl ?_
  refine zh_i (rest := []) F (k_L_change l hlT M ⟨hI, hW⟩ v1 (by omega) (by omega) v2 (by omega) (by omega)) cs_L_161 ⟨Nat.le_of_ble_eq_true rfl, Nat.le_of_ble_eq_true rfl⟩ ⟨show _ ≤ 601024 by omega, show _ ≤ 7293034 by omega⟩ rfl rfl rfl (Nat.le_of_ble_eq_true rfl) dL_law_606 (fun v3 M4 rv3 hI p5 => ?_)
  obtain ⟨hI, hW⟩ := hI
  obtain ⟨fp5, xp5⟩ := p5
  have tM4_0_1 : M4 0 1 = M 0 1 := fp5.at (by decide)
  have tM4_131_6 : M4 131 6 = M 131 6 := fp5.at (by decide)
  have hR : RlT M4 := rl_fr fp5 (by decide) hR
  refine z_istore F dL_law_609 (by decide) (ls' := [(5, ii v3), (4, ii y), (0, .ref b), (1, .ref (ad 0)), (2, .ref (ad 131)), (3, .ref (ad 151))]) rfl ?_
  refine z_aload_n F dL_law_611 rfl (q := 4) rfl ?_
  refine z_aload_n F dL_law_612 rfl (q := 2) rfl ?_
  refine z_iload F dL_law_613 (q := 1) rfl ?_
  refine z_iconst F dL_law_615 ?_
  refine z_iadd F dL_law_616 ?_
  refine z_sld F hX hbl hbA hL (by omega) (by omega) dL_law_617 (fun v6 ev6 rv6 => ?_)
  have zv6 : v1 = v6 := ev1.trans ev6.symm
  subst zv6
  refine z_aload_n F dL_law_618 rfl (q := 2) rfl ?_
  refine z_iload F dL_law_619 (q := 1) rfl ?_
  refine z_iconst F dL_law_621 ?_
  refine z_iadd F dL_law_622 ?_
  refine z_sld F hX hbl hbA hL (by omega) (by omega) dL_law_623 (fun v7 ev7 rv7 => ?_)
  have zv7 : v2 = v7 := ev2.trans ev7.symm
  subst zv7
  refine zl_i (rest := []) F (k_X12_change l M4 ⟨hI, hW⟩ v1 (by omega) (by omega) v2 (by omega) (by omega)) cs_L_163 (T := TX12) (N := 44) (ci := 12) rfl gs_131 ⟨Nat.le_of_ble_eq_true rfl, Nat.le_of_ble_eq_true rfl⟩ ⟨show _ ≤ 601024 by omega, show _ ≤ 7293034 by omega⟩ rfl rfl rfl (Nat.le_of_ble_eq_true rfl) dL_law_624 (fun v8 M9 rv8 hI p10 => ?_)
  obtain ⟨hI, hW⟩ := hI
  obtain ⟨⟨av8, bv8⟩, fp10⟩ := p10
  have tM9_0_1 : M9 0 1 = M4 0 1 := fp10.at (by decide)
  have tM9_131_6 : M9 131 6 = M4 131 6 := fp10.t6 (by decide)
  have hR : RlT M9 := rl_fr fp10 (by decide) hR
  refine z_istore F dL_law_627 (by decide) (ls' := [(6, ii v8), (5, ii v3), (4, ii y), (0, .ref b), (1, .ref (ad 0)), (2, .ref (ad 131)), (3, .ref (ad 151))]) rfl ?_
  refine z_goto (tgt := 1691) F dL_law_629 (by decide +kernel) ?_
  refine z_iincN F dL_law_1691 (q := 2) rfl (by decide) (fun w e => ?_)
  subst e
  refine z_eq (ls' := [(4, ii (y + 6)), (6, ii v8), (5, ii v3), (0, .ref b), (1, .ref (ad 0)), (2, .ref (ad 131)), (3, .ref (ad 151))]) rfl rfl rfl ?_
  refine z_goto (tgt := 23) F dL_law_1694 (by decide +kernel) ?_
  refine z_loc [0, 3, 4, 5, 6] (ls' := [(4, ii (y + 6)), (0, .ref b), (1, .ref (ad 0)), (2, .ref (ad 131)), (3, .ref (ad 151))]) rfl ?_
  refine z_wide (n1 := nk + 6) (s1 := sk + 36) (by omega) (by omega) ?_
  exact ih _ ⟨hI, hW⟩ hR
set_option maxRecDepth 4000 in
theorem law_c10 {p : Program} {l : Launch} {e : Env} {s : State} {m : MethodId} {below : List Frame} {meth : Method} {c : Code} {b L : Nat} {xs : Nat → Int32} {D : va_G} {cy : Nat → ClassId} {ad : Nat → Nat} {A : Nat → Prop} (hlT : l.stackTraces = false) (F : FxM D cy ad p m c cL_law 8 s #[Value.ref b] RL A) (hX : va_X b L xs s s.heap) (hbl : b < s.heap.size) (hbA : ¬ A b) (hL : L ≤ 3072) (y : Int) (hy0 : 0 ≤ y) (hy1 : y + 6 ≤ (L : Int)) (nk sk : Nat) (hnk : nk ≤ 9000 ∧ sk ≤ 90000) (M : Mem) (hJ : Iw M) (hR : RlT M) (ih : ∀ M' : Mem, Iw M' → (RlT M') → Z D cy ad p l e room_1 s m #[Value.ref b] below meth c A 8 (nk + 6) (sk + 36) (lw_Z below #[Value.ref b] s) 23 [(4, ii (y + 6)), (0, .ref b), (1, .ref (ad 0)), (2, .ref (ad 131)), (3, .ref (ad 151))] [] M') : Z D cy ad p l e room_1 s m #[Value.ref b] below meth c A 8 nk sk (lw_Z below #[Value.ref b] s) 632 [(4, ii y), (0, .ref b), (1, .ref (ad 0)), (2, .ref (ad 131)), (3, .ref (ad 151))] [] M := by
  obtain ⟨hI, hW⟩ := hJ
  refine z_aload_n F dL_law_632 rfl (q := 2) rfl ?_
  refine z_aload_n F dL_law_633 rfl (q := 1) rfl ?_
  refine z_iload F dL_law_634 (q := 0) rfl ?_
  refine z_iconst F dL_law_636 ?_
  refine z_iadd F dL_law_637 ?_
  refine z_sld F hX hbl hbA hL (by omega) (by omega) dL_law_638 (fun v1 ev1 rv1 => ?_)
  refine z_aload_n F dL_law_639 rfl (q := 1) rfl ?_
  refine z_iload F dL_law_640 (q := 0) rfl ?_
  refine z_iconst F dL_law_642 ?_
  refine z_iadd F dL_law_643 ?_
  refine z_sld F hX hbl hbA hL (by omega) (by omega) dL_law_644 (fun v2 ev2 rv2 => ?_)
  refine zl_i (rest := []) F (k_X11_why l M ⟨hI, hW⟩ v1 (by omega) (by omega) v2 (by omega) (by omega)) cs_L_164 (T := TX11) (N := 14) (ci := 11) rfl gs_0 ⟨Nat.le_of_ble_eq_true rfl, Nat.le_of_ble_eq_true rfl⟩ ⟨show _ ≤ 601024 by omega, show _ ≤ 7293034 by omega⟩ rfl rfl rfl (Nat.le_of_ble_eq_true rfl) dL_law_645 (fun v3 M4 rv3 hI p5 => ?_)
  obtain ⟨hI, hW⟩ := hI
  obtain ⟨⟨av3, bv3⟩, rfl⟩ := p5
  refine z_pop F dL_law_648 rfl ?_
  refine z_aload_n F dL_law_649 rfl (q := 3) rfl ?_
  refine z_aload_n F dL_law_650 rfl (q := 1) rfl ?_
  refine z_iload F dL_law_651 (q := 0) rfl ?_
  refine z_iconst F dL_law_653 ?_
  refine z_iadd F dL_law_654 ?_
  refine z_sld F hX hbl hbA hL (by omega) (by omega) dL_law_655 (fun v6 ev6 rv6 => ?_)
  have zv6 : v1 = v6 := ev1.trans ev6.symm
  subst zv6
  refine z_aload_n F dL_law_656 rfl (q := 1) rfl ?_
  refine z_iload F dL_law_657 (q := 0) rfl ?_
  refine z_iconst F dL_law_659 ?_
  refine z_iadd F dL_law_660 ?_
  refine z_sld F hX hbl hbA hL (by omega) (by omega) dL_law_661 (fun v7 ev7 rv7 => ?_)
  have zv7 : v2 = v7 := ev2.trans ev7.symm
  subst zv7
  refine zl_i (rest := []) F (k_X12_why l M ⟨hI, hW⟩ v1 (by omega) (by omega) v2 (by omega) (by omega)) cs_L_167 (T := TX12) (N := 44) (ci := 12) rfl gs_131 ⟨Nat.le_of_ble_eq_true rfl, Nat.le_of_ble_eq_true rfl⟩ ⟨show _ ≤ 601024 by omega, show _ ≤ 7293034 by omega⟩ rfl rfl rfl (Nat.le_of_ble_eq_true rfl) dL_law_662 (fun v8 M9 rv8 hI p10 => ?_)
  obtain ⟨hI, hW⟩ := hI
  obtain ⟨⟨av8, bv8⟩, fp10⟩ := p10
  have tM9_0_1 : M9 0 1 = M 0 1 := fp10.at (by decide)
  have tM9_131_6 : M9 131 6 = M 131 6 := fp10.t6 (by decide)
  have hR : RlT M9 := rl_fr fp10 (by decide) hR
  refine z_pop F dL_law_665 rfl ?_
  refine z_goto (tgt := 1691) F dL_law_666 (by decide +kernel) ?_
  refine z_iincN F dL_law_1691 (q := 0) rfl (by decide) (fun w e => ?_)
  subst e
  refine z_eq (ls' := [(4, ii (y + 6)), (0, .ref b), (1, .ref (ad 0)), (2, .ref (ad 131)), (3, .ref (ad 151))]) rfl rfl rfl ?_
  refine z_goto (tgt := 23) F dL_law_1694 (by decide +kernel) ?_
  refine z_loc [0, 1, 2, 3, 4] (ls' := [(4, ii (y + 6)), (0, .ref b), (1, .ref (ad 0)), (2, .ref (ad 131)), (3, .ref (ad 151))]) rfl ?_
  refine z_wide (n1 := nk + 6) (s1 := sk + 36) (by omega) (by omega) ?_
  exact ih _ ⟨hI, hW⟩ hR
set_option maxRecDepth 4000 in
theorem law_c11 {p : Program} {l : Launch} {e : Env} {s : State} {m : MethodId} {below : List Frame} {meth : Method} {c : Code} {b L : Nat} {xs : Nat → Int32} {D : va_G} {cy : Nat → ClassId} {ad : Nat → Nat} {A : Nat → Prop} (hlT : l.stackTraces = false) (F : FxM D cy ad p m c cL_law 8 s #[Value.ref b] RL A) (hX : va_X b L xs s s.heap) (hbl : b < s.heap.size) (hbA : ¬ A b) (hL : L ≤ 3072) (y : Int) (hy0 : 0 ≤ y) (hy1 : y + 6 ≤ (L : Int)) (nk sk : Nat) (hnk : nk ≤ 9000 ∧ sk ≤ 90000) (M : Mem) (hJ : Iw M) (hR : RlT M) (ih : ∀ M' : Mem, Iw M' → (RlT M') → Z D cy ad p l e room_1 s m #[Value.ref b] below meth c A 8 (nk + 6) (sk + 36) (lw_Z below #[Value.ref b] s) 23 [(4, ii (y + 6)), (0, .ref b), (1, .ref (ad 0)), (2, .ref (ad 131)), (3, .ref (ad 151))] [] M') : Z D cy ad p l e room_1 s m #[Value.ref b] below meth c A 8 nk sk (lw_Z below #[Value.ref b] s) 669 [(4, ii y), (0, .ref b), (1, .ref (ad 0)), (2, .ref (ad 131)), (3, .ref (ad 151))] [] M := by
  obtain ⟨hI, hW⟩ := hJ
  refine z_aload_n F dL_law_669 rfl (q := 2) rfl ?_
  refine z_aload_n F dL_law_670 rfl (q := 1) rfl ?_
  refine z_iload F dL_law_671 (q := 0) rfl ?_
  refine z_iconst F dL_law_673 ?_
  refine z_iadd F dL_law_674 ?_
  refine z_sld F hX hbl hbA hL (by omega) (by omega) dL_law_675 (fun v1 ev1 rv1 => ?_)
  refine z_aload_n F dL_law_676 rfl (q := 1) rfl ?_
  refine z_iload F dL_law_677 (q := 0) rfl ?_
  refine z_iconst F dL_law_679 ?_
  refine z_iadd F dL_law_680 ?_
  refine z_sld F hX hbl hbA hL (by omega) (by omega) dL_law_681 (fun v2 ev2 rv2 => ?_)
  refine zl_i (rest := []) F (k_X11_move l M ⟨hI, hW⟩ v1 (by omega) (by omega) v2 (by omega) (by omega)) cs_L_168 (T := TX11) (N := 14) (ci := 11) rfl gs_0 ⟨Nat.le_of_ble_eq_true rfl, Nat.le_of_ble_eq_true rfl⟩ ⟨show _ ≤ 601024 by omega, show _ ≤ 7293034 by omega⟩ rfl rfl rfl (Nat.le_of_ble_eq_true rfl) dL_law_682 (fun v3 M4 rv3 hI p5 => ?_)
  obtain ⟨hI, hW⟩ := hI
  obtain ⟨⟨av3, bv3⟩, fp5⟩ := p5
  have tM4_0_1 : M4 0 1 = M 0 1 := fp5.at (by decide)
  have tM4_131_6 : M4 131 6 = M 131 6 := fp5.at (by decide)
  have hR : RlT M4 := rl_fr fp5 (by decide) hR
  refine z_pop F dL_law_685 rfl ?_
  refine z_aload_n F dL_law_686 rfl (q := 3) rfl ?_
  refine z_aload_n F dL_law_687 rfl (q := 1) rfl ?_
  refine z_iload F dL_law_688 (q := 0) rfl ?_
  refine z_iconst F dL_law_690 ?_
  refine z_iadd F dL_law_691 ?_
  refine z_sld F hX hbl hbA hL (by omega) (by omega) dL_law_692 (fun v6 ev6 rv6 => ?_)
  have zv6 : v1 = v6 := ev1.trans ev6.symm
  subst zv6
  refine z_aload_n F dL_law_693 rfl (q := 1) rfl ?_
  refine z_iload F dL_law_694 (q := 0) rfl ?_
  refine z_iconst F dL_law_696 ?_
  refine z_iadd F dL_law_697 ?_
  refine z_sld F hX hbl hbA hL (by omega) (by omega) dL_law_698 (fun v7 ev7 rv7 => ?_)
  have zv7 : v2 = v7 := ev2.trans ev7.symm
  subst zv7
  refine zl_i (rest := []) F (k_X12_move l M4 ⟨hI, hW⟩ v1 (by omega) (by omega) v2 (by omega) (by omega)) cs_L_171 (T := TX12) (N := 44) (ci := 12) rfl gs_131 ⟨Nat.le_of_ble_eq_true rfl, Nat.le_of_ble_eq_true rfl⟩ ⟨show _ ≤ 601024 by omega, show _ ≤ 7293034 by omega⟩ rfl rfl rfl (Nat.le_of_ble_eq_true rfl) dL_law_699 (fun v8 M9 rv8 hI p10 => ?_)
  obtain ⟨hI, hW⟩ := hI
  obtain ⟨⟨av8, bv8⟩, fp10⟩ := p10
  have tM9_0_1 : M9 0 1 = M4 0 1 := fp10.at (by decide)
  have tM9_131_6 : M9 131 6 = M4 131 6 := fp10.t6 (by decide)
  have hR : RlT M9 := rl_fr fp10 (by decide) hR
  refine z_pop F dL_law_702 rfl ?_
  refine z_goto (tgt := 1691) F dL_law_703 (by decide +kernel) ?_
  refine z_iincN F dL_law_1691 (q := 0) rfl (by decide) (fun w e => ?_)
  subst e
  refine z_eq (ls' := [(4, ii (y + 6)), (0, .ref b), (1, .ref (ad 0)), (2, .ref (ad 131)), (3, .ref (ad 151))]) rfl rfl rfl ?_
  refine z_goto (tgt := 23) F dL_law_1694 (by decide +kernel) ?_
  refine z_loc [0, 1, 2, 3, 4] (ls' := [(4, ii (y + 6)), (0, .ref b), (1, .ref (ad 0)), (2, .ref (ad 131)), (3, .ref (ad 151))]) rfl ?_
  refine z_wide (n1 := nk + 6) (s1 := sk + 36) (by omega) (by omega) ?_
  exact ih _ ⟨hI, hW⟩ hR
set_option maxRecDepth 4000 in
theorem law_c12 {p : Program} {l : Launch} {e : Env} {s : State} {m : MethodId} {below : List Frame} {meth : Method} {c : Code} {b L : Nat} {xs : Nat → Int32} {D : va_G} {cy : Nat → ClassId} {ad : Nat → Nat} {A : Nat → Prop} (hlT : l.stackTraces = false) (F : FxM D cy ad p m c cL_law 8 s #[Value.ref b] RL A) (hX : va_X b L xs s s.heap) (hbl : b < s.heap.size) (hbA : ¬ A b) (hL : L ≤ 3072) (y : Int) (hy0 : 0 ≤ y) (hy1 : y + 6 ≤ (L : Int)) (nk sk : Nat) (hnk : nk ≤ 9000 ∧ sk ≤ 90000) (M : Mem) (hJ : Iw M) (hR : RlT M) (ih : ∀ M' : Mem, Iw M' → (RlT M') → Z D cy ad p l e room_1 s m #[Value.ref b] below meth c A 8 (nk + 6) (sk + 36) (lw_Z below #[Value.ref b] s) 23 [(4, ii (y + 6)), (0, .ref b), (1, .ref (ad 0)), (2, .ref (ad 131)), (3, .ref (ad 151))] [] M') : Z D cy ad p l e room_1 s m #[Value.ref b] below meth c A 8 nk sk (lw_Z below #[Value.ref b] s) 706 [(4, ii y), (0, .ref b), (1, .ref (ad 0)), (2, .ref (ad 131)), (3, .ref (ad 151))] [] M := by
  obtain ⟨hI, hW⟩ := hJ
  refine z_aload_n F dL_law_706 rfl (q := 2) rfl ?_
  refine z_aload_n F dL_law_707 rfl (q := 1) rfl ?_
  refine z_iload F dL_law_708 (q := 0) rfl ?_
  refine z_iconst F dL_law_710 ?_
  refine z_iadd F dL_law_711 ?_
  refine z_sld F hX hbl hbA hL (by omega) (by omega) dL_law_712 (fun v1 ev1 rv1 => ?_)
  refine z_aload_n F dL_law_713 rfl (q := 4) rfl ?_
  refine zh_i (rest := []) F (k_L_days l hlT M ⟨hI, hW⟩ v1 (by omega) (by omega)) cs_L_172 ⟨Nat.le_of_ble_eq_true rfl, Nat.le_of_ble_eq_true rfl⟩ ⟨show _ ≤ 601024 by omega, show _ ≤ 7293034 by omega⟩ rfl rfl rfl (Nat.le_of_ble_eq_true rfl) dL_law_714 (fun v2 M3 rv2 hI p4 => ?_)
  obtain ⟨hI, hW⟩ := hI
  obtain ⟨fp4, xp4⟩ := p4
  have tM3_0_1 : M3 0 1 = M 0 1 := fp4.at (by decide)
  have tM3_131_6 : M3 131 6 = M 131 6 := fp4.at (by decide)
  have hR : RlT M3 := rl_fr fp4 (by decide) hR
  refine z_istore F dL_law_717 (by decide) (ls' := [(5, ii v2), (4, ii y), (0, .ref b), (1, .ref (ad 0)), (2, .ref (ad 131)), (3, .ref (ad 151))]) rfl ?_
  refine z_aload_n F dL_law_719 rfl (q := 4) rfl ?_
  refine z_aload_n F dL_law_720 rfl (q := 2) rfl ?_
  refine z_iload F dL_law_721 (q := 1) rfl ?_
  refine z_iconst F dL_law_723 ?_
  refine z_iadd F dL_law_724 ?_
  refine z_sld F hX hbl hbA hL (by omega) (by omega) dL_law_725 (fun v5 ev5 rv5 => ?_)
  have zv5 : v1 = v5 := ev1.trans ev5.symm
  subst zv5
  refine zl_i (rest := []) F (k_X12_days l M3 ⟨hI, hW⟩ v1 (by omega) (by omega)) cs_L_174 (T := TX12) (N := 44) (ci := 12) rfl gs_131 ⟨Nat.le_of_ble_eq_true rfl, Nat.le_of_ble_eq_true rfl⟩ ⟨show _ ≤ 601024 by omega, show _ ≤ 7293034 by omega⟩ rfl rfl rfl (Nat.le_of_ble_eq_true rfl) dL_law_726 (fun v6 M7 rv6 hI p8 => ?_)
  obtain ⟨hI, hW⟩ := hI
  obtain ⟨⟨av6, bv6⟩, fp8⟩ := p8
  have tM7_0_1 : M7 0 1 = M3 0 1 := fp8.at (by decide)
  have tM7_131_6 : M7 131 6 = M3 131 6 := fp8.t6 (by decide)
  have hR : RlT M7 := rl_fr fp8 (by decide) hR
  refine z_istore F dL_law_729 (by decide) (ls' := [(6, ii v6), (5, ii v2), (4, ii y), (0, .ref b), (1, .ref (ad 0)), (2, .ref (ad 131)), (3, .ref (ad 151))]) rfl ?_
  refine z_goto (tgt := 1691) F dL_law_731 (by decide +kernel) ?_
  refine z_iincN F dL_law_1691 (q := 2) rfl (by decide) (fun w e => ?_)
  subst e
  refine z_eq (ls' := [(4, ii (y + 6)), (6, ii v6), (5, ii v2), (0, .ref b), (1, .ref (ad 0)), (2, .ref (ad 131)), (3, .ref (ad 151))]) rfl rfl rfl ?_
  refine z_goto (tgt := 23) F dL_law_1694 (by decide +kernel) ?_
  refine z_loc [0, 3, 4, 5, 6] (ls' := [(4, ii (y + 6)), (0, .ref b), (1, .ref (ad 0)), (2, .ref (ad 131)), (3, .ref (ad 151))]) rfl ?_
  refine z_wide (n1 := nk + 6) (s1 := sk + 36) (by omega) (by omega) ?_
  exact ih _ ⟨hI, hW⟩ hR
set_option maxRecDepth 4000 in
theorem law_c13 {p : Program} {l : Launch} {e : Env} {s : State} {m : MethodId} {below : List Frame} {meth : Method} {c : Code} {b L : Nat} {xs : Nat → Int32} {D : va_G} {cy : Nat → ClassId} {ad : Nat → Nat} {A : Nat → Prop} (hlT : l.stackTraces = false) (F : FxM D cy ad p m c cL_law 8 s #[Value.ref b] RL A) (hX : va_X b L xs s s.heap) (hbl : b < s.heap.size) (hbA : ¬ A b) (hL : L ≤ 3072) (y : Int) (hy0 : 0 ≤ y) (hy1 : y + 6 ≤ (L : Int)) (nk sk : Nat) (hnk : nk ≤ 9000 ∧ sk ≤ 90000) (M : Mem) (hJ : Iw M) (hR : RlT M) (ih : ∀ M' : Mem, Iw M' → (RlT M') → Z D cy ad p l e room_1 s m #[Value.ref b] below meth c A 8 (nk + 6) (sk + 36) (lw_Z below #[Value.ref b] s) 23 [(4, ii (y + 6)), (0, .ref b), (1, .ref (ad 0)), (2, .ref (ad 131)), (3, .ref (ad 151))] [] M') : Z D cy ad p l e room_1 s m #[Value.ref b] below meth c A 8 nk sk (lw_Z below #[Value.ref b] s) 734 [(4, ii y), (0, .ref b), (1, .ref (ad 0)), (2, .ref (ad 131)), (3, .ref (ad 151))] [] M := by
  obtain ⟨hI, hW⟩ := hJ
  refine z_aload_n F dL_law_734 rfl (q := 2) rfl ?_
  refine z_aload_n F dL_law_735 rfl (q := 1) rfl ?_
  refine z_iload F dL_law_736 (q := 0) rfl ?_
  refine z_iconst F dL_law_738 ?_
  refine z_iadd F dL_law_739 ?_
  refine z_sld F hX hbl hbA hL (by omega) (by omega) dL_law_740 (fun v1 ev1 rv1 => ?_)
  refine z_aload_n F dL_law_741 rfl (q := 4) rfl ?_
  refine zh_i (rest := []) F (k_L_undo l hlT M ⟨hI, hW⟩ v1 (by omega) (by omega)) cs_L_175 ⟨Nat.le_of_ble_eq_true rfl, Nat.le_of_ble_eq_true rfl⟩ ⟨show _ ≤ 601024 by omega, show _ ≤ 7293034 by omega⟩ rfl rfl rfl (Nat.le_of_ble_eq_true rfl) dL_law_742 (fun v2 M3 rv2 hI p4 => ?_)
  obtain ⟨hI, hW⟩ := hI
  obtain ⟨fp4, xp4⟩ := p4
  have tM3_0_1 : M3 0 1 = M 0 1 := fp4.at (by decide)
  have tM3_131_6 : M3 131 6 = M 131 6 := fp4.at (by decide)
  have hR : RlT M3 := rl_fr fp4 (by decide) hR
  refine z_istore F dL_law_745 (by decide) (ls' := [(5, ii v2), (4, ii y), (0, .ref b), (1, .ref (ad 0)), (2, .ref (ad 131)), (3, .ref (ad 151))]) rfl ?_
  refine z_aload_n F dL_law_747 rfl (q := 4) rfl ?_
  refine z_aload_n F dL_law_748 rfl (q := 2) rfl ?_
  refine z_iload F dL_law_749 (q := 1) rfl ?_
  refine z_iconst F dL_law_751 ?_
  refine z_iadd F dL_law_752 ?_
  refine z_sld F hX hbl hbA hL (by omega) (by omega) dL_law_753 (fun v5 ev5 rv5 => ?_)
  have zv5 : v1 = v5 := ev1.trans ev5.symm
  subst zv5
  refine zl_i (rest := []) F (k_X12_undo l M3 ⟨hI, hW⟩ v1 (by omega) (by omega)) cs_L_177 (T := TX12) (N := 44) (ci := 12) rfl gs_131 ⟨Nat.le_of_ble_eq_true rfl, Nat.le_of_ble_eq_true rfl⟩ ⟨show _ ≤ 601024 by omega, show _ ≤ 7293034 by omega⟩ rfl rfl rfl (Nat.le_of_ble_eq_true rfl) dL_law_754 (fun v6 M7 rv6 hI p8 => ?_)
  obtain ⟨hI, hW⟩ := hI
  obtain ⟨⟨av6, bv6⟩, fp8⟩ := p8
  have tM7_0_1 : M7 0 1 = M3 0 1 := fp8.at (by decide)
  have tM7_131_6 : M7 131 6 = M3 131 6 := fp8.t6 (by decide)
  have hR : RlT M7 := rl_fr fp8 (by decide) hR
  refine z_istore F dL_law_757 (by decide) (ls' := [(6, ii v6), (5, ii v2), (4, ii y), (0, .ref b), (1, .ref (ad 0)), (2, .ref (ad 131)), (3, .ref (ad 151))]) rfl ?_
  refine z_goto (tgt := 1691) F dL_law_759 (by decide +kernel) ?_
  refine z_iincN F dL_law_1691 (q := 2) rfl (by decide) (fun w e => ?_)
  subst e
  refine z_eq (ls' := [(4, ii (y + 6)), (6, ii v6), (5, ii v2), (0, .ref b), (1, .ref (ad 0)), (2, .ref (ad 131)), (3, .ref (ad 151))]) rfl rfl rfl ?_
  refine z_goto (tgt := 23) F dL_law_1694 (by decide +kernel) ?_
  refine z_loc [0, 3, 4, 5, 6] (ls' := [(4, ii (y + 6)), (0, .ref b), (1, .ref (ad 0)), (2, .ref (ad 131)), (3, .ref (ad 151))]) rfl ?_
  refine z_wide (n1 := nk + 6) (s1 := sk + 36) (by omega) (by omega) ?_
  exact ih _ ⟨hI, hW⟩ hR
