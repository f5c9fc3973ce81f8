theorem dL_law_248 : decode cL_law 248 = .ok (.aload_n 1, 1) := by decide +kernel
theorem dL_law_249 : decode cL_law 249 = .ok (.aload_n 0, 1) := by decide +kernel
theorem dL_law_250 : decode cL_law 250 = .ok (.iload_n 3, 1) := by decide +kernel
theorem dL_law_251 : decode cL_law 251 = .ok (.iconst 1, 1) := by decide +kernel
theorem dL_law_252 : decode cL_law 252 = .ok (.iadd, 1) := by decide +kernel
theorem dL_law_253 : decode cL_law 253 = .ok (.iaload, 1) := by decide +kernel
theorem dL_law_254 : decode cL_law 254 = .ok (.aload_n 0, 1) := by decide +kernel
theorem dL_law_255 : decode cL_law 255 = .ok (.iload_n 3, 1) := by decide +kernel
theorem dL_law_256 : decode cL_law 256 = .ok (.iconst 2, 1) := by decide +kernel
theorem dL_law_257 : decode cL_law 257 = .ok (.iadd, 1) := by decide +kernel
theorem dL_law_258 : decode cL_law 258 = .ok (.iaload, 1) := by decide +kernel
theorem dL_law_259 : decode cL_law 259 = .ok (.aload_n 0, 1) := by decide +kernel
theorem dL_law_260 : decode cL_law 260 = .ok (.iload_n 3, 1) := by decide +kernel
theorem dL_law_261 : decode cL_law 261 = .ok (.iconst 3, 1) := by decide +kernel
theorem dL_law_262 : decode cL_law 262 = .ok (.iadd, 1) := by decide +kernel
theorem dL_law_263 : decode cL_law 263 = .ok (.iaload, 1) := by decide +kernel
theorem dL_law_264 : decode cL_law 264 = .ok (.aload_n 0, 1) := by decide +kernel
theorem dL_law_265 : decode cL_law 265 = .ok (.iload_n 3, 1) := by decide +kernel
theorem dL_law_266 : decode cL_law 266 = .ok (.iconst 4, 1) := by decide +kernel
theorem dL_law_267 : decode cL_law 267 = .ok (.iadd, 1) := by decide +kernel
theorem dL_law_268 : decode cL_law 268 = .ok (.iaload, 1) := by decide +kernel
theorem dL_law_269 : decode cL_law 269 = .ok (.aload_n 0, 1) := by decide +kernel
theorem dL_law_270 : decode cL_law 270 = .ok (.iload_n 3, 1) := by decide +kernel
theorem dL_law_271 : decode cL_law 271 = .ok (.iconst 5, 1) := by decide +kernel
theorem dL_law_272 : decode cL_law 272 = .ok (.iadd, 1) := by decide +kernel
theorem dL_law_273 : decode cL_law 273 = .ok (.iaload, 1) := by decide +kernel
theorem dL_law_274 : decode cL_law 274 = .ok (.invokevirtual 13, 3) := by decide +kernel
theorem dL_law_277 : decode cL_law 277 = .ok (.pop, 1) := by decide +kernel
theorem dL_law_278 : decode cL_law 278 = .ok (.aload_n 2, 1) := by decide +kernel
theorem dL_law_279 : decode cL_law 279 = .ok (.aload_n 0, 1) := by decide +kernel
theorem dL_law_280 : decode cL_law 280 = .ok (.iload_n 3, 1) := by decide +kernel
theorem dL_law_281 : decode cL_law 281 = .ok (.iconst 1, 1) := by decide +kernel
theorem dL_law_282 : decode cL_law 282 = .ok (.iadd, 1) := by decide +kernel
theorem dL_law_283 : decode cL_law 283 = .ok (.iaload, 1) := by decide +kernel
theorem dL_law_284 : decode cL_law 284 = .ok (.aload_n 0, 1) := by decide +kernel
theorem dL_law_285 : decode cL_law 285 = .ok (.iload_n 3, 1) := by decide +kernel
theorem dL_law_286 : decode cL_law 286 = .ok (.iconst 2, 1) := by decide +kernel
theorem dL_law_287 : decode cL_law 287 = .ok (.iadd, 1) := by decide +kernel
theorem dL_law_288 : decode cL_law 288 = .ok (.iaload, 1) := by decide +kernel
theorem dL_law_289 : decode cL_law 289 = .ok (.aload_n 0, 1) := by decide +kernel
theorem dL_law_290 : decode cL_law 290 = .ok (.iload_n 3, 1) := by decide +kernel
theorem dL_law_291 : decode cL_law 291 = .ok (.iconst 3, 1) := by decide +kernel
theorem dL_law_292 : decode cL_law 292 = .ok (.iadd, 1) := by decide +kernel
theorem dL_law_293 : decode cL_law 293 = .ok (.iaload, 1) := by decide +kernel
theorem dL_law_294 : decode cL_law 294 = .ok (.aload_n 0, 1) := by decide +kernel
theorem dL_law_295 : decode cL_law 295 = .ok (.iload_n 3, 1) := by decide +kernel
theorem dL_law_296 : decode cL_law 296 = .ok (.iconst 4, 1) := by decide +kernel
theorem dL_law_297 : decode cL_law 297 = .ok (.iadd, 1) := by decide +kernel
theorem dL_law_298 : decode cL_law 298 = .ok (.iaload, 1) := by decide +kernel
theorem dL_law_299 : decode cL_law 299 = .ok (.aload_n 0, 1) := by decide +kernel
theorem dL_law_300 : decode cL_law 300 = .ok (.iload_n 3, 1) := by decide +kernel
theorem dL_law_301 : decode cL_law 301 = .ok (.iconst 5, 1) := by decide +kernel
theorem dL_law_302 : decode cL_law 302 = .ok (.iadd, 1) := by decide +kernel
theorem dL_law_303 : decode cL_law 303 = .ok (.iaload, 1) := by decide +kernel
theorem dL_law_304 : decode cL_law 304 = .ok (.invokevirtual 17, 3) := by decide +kernel
theorem dL_law_307 : decode cL_law 307 = .ok (.pop, 1) := by decide +kernel
theorem dL_law_308 : decode cL_law 308 = .ok (.goto 1958, 3) := by decide +kernel
theorem dL_law_311 : decode cL_law 311 = .ok (.aload_n 1, 1) := by decide +kernel
theorem dL_law_312 : decode cL_law 312 = .ok (.aload_n 0, 1) := by decide +kernel
theorem dL_law_313 : decode cL_law 313 = .ok (.iload_n 3, 1) := by decide +kernel
theorem dL_law_314 : decode cL_law 314 = .ok (.iconst 1, 1) := by decide +kernel
theorem dL_law_315 : decode cL_law 315 = .ok (.iadd, 1) := by decide +kernel
theorem dL_law_316 : decode cL_law 316 = .ok (.iaload, 1) := by decide +kernel
theorem dL_law_317 : decode cL_law 317 = .ok (.invokevirtual 18, 3) := by decide +kernel
theorem dL_law_320 : decode cL_law 320 = .ok (.pop, 1) := by decide +kernel
theorem dL_law_321 : decode cL_law 321 = .ok (.aload_n 2, 1) := by decide +kernel
theorem dL_law_322 : decode cL_law 322 = .ok (.aload_n 0, 1) := by decide +kernel
theorem dL_law_323 : decode cL_law 323 = .ok (.iload_n 3, 1) := by decide +kernel
theorem dL_law_324 : decode cL_law 324 = .ok (.iconst 1, 1) := by decide +kernel
theorem dL_law_325 : decode cL_law 325 = .ok (.iadd, 1) := by decide +kernel
theorem dL_law_326 : decode cL_law 326 = .ok (.iaload, 1) := by decide +kernel
theorem dL_law_327 : decode cL_law 327 = .ok (.invokevirtual 22, 3) := by decide +kernel
theorem dL_law_330 : decode cL_law 330 = .ok (.pop, 1) := by decide +kernel
theorem dL_law_331 : decode cL_law 331 = .ok (.goto 1935, 3) := by decide +kernel
theorem dL_law_334 : decode cL_law 334 = .ok (.aload_n 1, 1) := by decide +kernel
theorem dL_law_335 : decode cL_law 335 = .ok (.invokevirtual 23, 3) := by decide +kernel
theorem dL_law_338 : decode cL_law 338 = .ok (.pop, 1) := by decide +kernel
theorem dL_law_339 : decode cL_law 339 = .ok (.aload_n 2, 1) := by decide +kernel
theorem dL_law_340 : decode cL_law 340 = .ok (.invokevirtual 27, 3) := by decide +kernel
theorem dL_law_343 : decode cL_law 343 = .ok (.pop, 1) := by decide +kernel
theorem dL_law_344 : decode cL_law 344 = .ok (.goto 1922, 3) := by decide +kernel
theorem dL_law_347 : decode cL_law 347 = .ok (.aload_n 1, 1) := by decide +kernel
theorem dL_law_348 : decode cL_law 348 = .ok (.aload_n 0, 1) := by decide +kernel
theorem dL_law_349 : decode cL_law 349 = .ok (.iload_n 3, 1) := by decide +kernel
theorem dL_law_350 : decode cL_law 350 = .ok (.iconst 1, 1) := by decide +kernel
theorem dL_law_351 : decode cL_law 351 = .ok (.iadd, 1) := by decide +kernel
theorem dL_law_352 : decode cL_law 352 = .ok (.iaload, 1) := by decide +kernel
theorem dL_law_353 : decode cL_law 353 = .ok (.invokevirtual 28, 3) := by decide +kernel
theorem dL_law_356 : decode cL_law 356 = .ok (.pop, 1) := by decide +kernel
theorem dL_law_357 : decode cL_law 357 = .ok (.aload_n 2, 1) := by decide +kernel
theorem dL_law_358 : decode cL_law 358 = .ok (.aload_n 0, 1) := by decide +kernel
theorem dL_law_359 : decode cL_law 359 = .ok (.iload_n 3, 1) := by decide +kernel
theorem dL_law_360 : decode cL_law 360 = .ok (.iconst 1, 1) := by decide +kernel
theorem dL_law_361 : decode cL_law 361 = .ok (.iadd, 1) := by decide +kernel
theorem dL_law_362 : decode cL_law 362 = .ok (.iaload, 1) := by decide +kernel
theorem dL_law_363 : decode cL_law 363 = .ok (.invokevirtual 31, 3) := by decide +kernel
theorem dL_law_366 : decode cL_law 366 = .ok (.pop, 1) := by decide +kernel
theorem dL_law_367 : decode cL_law 367 = .ok (.goto 1899, 3) := by decide +kernel
theorem dL_law_370 : decode cL_law 370 = .ok (.aload_n 1, 1) := by decide +kernel
theorem dL_law_371 : decode cL_law 371 = .ok (.aload_n 0, 1) := by decide +kernel
theorem dL_law_372 : decode cL_law 372 = .ok (.iload_n 3, 1) := by decide +kernel
theorem dL_law_373 : decode cL_law 373 = .ok (.iconst 1, 1) := by decide +kernel
theorem dL_law_374 : decode cL_law 374 = .ok (.iadd, 1) := by decide +kernel
theorem dL_law_375 : decode cL_law 375 = .ok (.iaload, 1) := by decide +kernel
theorem dL_law_376 : decode cL_law 376 = .ok (.aload_n 0, 1) := by decide +kernel
theorem dL_law_377 : decode cL_law 377 = .ok (.iload_n 3, 1) := by decide +kernel
theorem dL_law_378 : decode cL_law 378 = .ok (.iconst 2, 1) := by decide +kernel
theorem dL_law_379 : decode cL_law 379 = .ok (.iadd, 1) := by decide +kernel
theorem dL_law_380 : decode cL_law 380 = .ok (.iaload, 1) := by decide +kernel
theorem dL_law_381 : decode cL_law 381 = .ok (.invokevirtual 32, 3) := by decide +kernel
theorem dL_law_384 : decode cL_law 384 = .ok (.pop2, 1) := by decide +kernel
theorem dL_law_385 : decode cL_law 385 = .ok (.aload_n 2, 1) := by decide +kernel
theorem dL_law_386 : decode cL_law 386 = .ok (.aload_n 0, 1) := by decide +kernel
theorem dL_law_387 : decode cL_law 387 = .ok (.iload_n 3, 1) := by decide +kernel
theorem dL_law_388 : decode cL_law 388 = .ok (.iconst 1, 1) := by decide +kernel
theorem dL_law_389 : decode cL_law 389 = .ok (.iadd, 1) := by decide +kernel
theorem dL_law_390 : decode cL_law 390 = .ok (.iaload, 1) := by decide +kernel
theorem dL_law_391 : decode cL_law 391 = .ok (.aload_n 0, 1) := by decide +kernel
theorem dL_law_392 : decode cL_law 392 = .ok (.iload_n 3, 1) := by decide +kernel
theorem dL_law_393 : decode cL_law 393 = .ok (.iconst 2, 1) := by decide +kernel
theorem dL_law_394 : decode cL_law 394 = .ok (.iadd, 1) := by decide +kernel
theorem dL_law_395 : decode cL_law 395 = .ok (.iaload, 1) := by decide +kernel
theorem dL_law_396 : decode cL_law 396 = .ok (.invokevirtual 36, 3) := by decide +kernel
theorem dL_law_399 : decode cL_law 399 = .ok (.pop2, 1) := by decide +kernel
theorem dL_law_400 : decode cL_law 400 = .ok (.goto 1866, 3) := by decide +kernel
theorem dL_law_403 : decode cL_law 403 = .ok (.aload_n 1, 1) := by decide +kernel
theorem dL_law_404 : decode cL_law 404 = .ok (.aload_n 0, 1) := by decide +kernel
theorem dL_law_405 : decode cL_law 405 = .ok (.iload_n 3, 1) := by decide +kernel
theorem dL_law_406 : decode cL_law 406 = .ok (.iconst 1, 1) := by decide +kernel
theorem dL_law_407 : decode cL_law 407 = .ok (.iadd, 1) := by decide +kernel
theorem dL_law_408 : decode cL_law 408 = .ok (.iaload, 1) := by decide +kernel
theorem dL_law_409 : decode cL_law 409 = .ok (.aload_n 0, 1) := by decide +kernel
theorem dL_law_410 : decode cL_law 410 = .ok (.iload_n 3, 1) := by decide +kernel
theorem dL_law_411 : decode cL_law 411 = .ok (.iconst 2, 1) := by decide +kernel
theorem dL_law_412 : decode cL_law 412 = .ok (.iadd, 1) := by decide +kernel
theorem dL_law_413 : decode cL_law 413 = .ok (.iaload, 1) := by decide +kernel
theorem dL_law_414 : decode cL_law 414 = .ok (.invokevirtual 37, 3) := by decide +kernel
theorem dL_law_417 : decode cL_law 417 = .ok (.pop2, 1) := by decide +kernel
theorem dL_law_418 : decode cL_law 418 = .ok (.aload_n 2, 1) := by decide +kernel
theorem dL_law_419 : decode cL_law 419 = .ok (.aload_n 0, 1) := by decide +kernel
theorem dL_law_420 : decode cL_law 420 = .ok (.iload_n 3, 1) := by decide +kernel
theorem dL_law_421 : decode cL_law 421 = .ok (.iconst 1, 1) := by decide +kernel
theorem dL_law_422 : decode cL_law 422 = .ok (.iadd, 1) := by decide +kernel
theorem dL_law_423 : decode cL_law 423 = .ok (.iaload, 1) := by decide +kernel
theorem dL_law_424 : decode cL_law 424 = .ok (.aload_n 0, 1) := by decide +kernel
theorem dL_law_425 : decode cL_law 425 = .ok (.iload_n 3, 1) := by decide +kernel
theorem dL_law_426 : decode cL_law 426 = .ok (.iconst 2, 1) := by decide +kernel
theorem dL_law_427 : decode cL_law 427 = .ok (.iadd, 1) := by decide +kernel
theorem dL_law_428 : decode cL_law 428 = .ok (.iaload, 1) := by decide +kernel
theorem dL_law_429 : decode cL_law 429 = .ok (.invokevirtual 40, 3) := by decide +kernel
theorem dL_law_432 : decode cL_law 432 = .ok (.pop2, 1) := by decide +kernel
theorem dL_law_433 : decode cL_law 433 = .ok (.goto 1833, 3) := by decide +kernel
theorem dL_law_436 : decode cL_law 436 = .ok (.aload_n 1, 1) := by decide +kernel
theorem dL_law_437 : decode cL_law 437 = .ok (.aload_n 0, 1) := by decide +kernel
theorem dL_law_438 : decode cL_law 438 = .ok (.iload_n 3, 1) := by decide +kernel
theorem dL_law_439 : decode cL_law 439 = .ok (.iconst 1, 1) := by decide +kernel
theorem dL_law_440 : decode cL_law 440 = .ok (.iadd, 1) := by decide +kernel
theorem dL_law_441 : decode cL_law 441 = .ok (.iaload, 1) := by decide +kernel
theorem dL_law_442 : decode cL_law 442 = .ok (.aload_n 0, 1) := by decide +kernel
theorem dL_law_443 : decode cL_law 443 = .ok (.iload_n 3, 1) := by decide +kernel
theorem dL_law_444 : decode cL_law 444 = .ok (.iconst 2, 1) := by decide +kernel
theorem dL_law_445 : decode cL_law 445 = .ok (.iadd, 1) := by decide +kernel
theorem dL_law_446 : decode cL_law 446 = .ok (.iaload, 1) := by decide +kernel
theorem dL_law_447 : decode cL_law 447 = .ok (.aload_n 0, 1) := by decide +kernel
theorem dL_law_448 : decode cL_law 448 = .ok (.iload_n 3, 1) := by decide +kernel
theorem dL_law_449 : decode cL_law 449 = .ok (.iconst 3, 1) := by decide +kernel
theorem dL_law_450 : decode cL_law 450 = .ok (.iadd, 1) := by decide +kernel
theorem dL_law_451 : decode cL_law 451 = .ok (.iaload, 1) := by decide +kernel
theorem dL_law_452 : decode cL_law 452 = .ok (.aload_n 0, 1) := by decide +kernel
theorem dL_law_453 : decode cL_law 453 = .ok (.iload_n 3, 1) := by decide +kernel
theorem dL_law_454 : decode cL_law 454 = .ok (.iconst 4, 1) := by decide +kernel
theorem dL_law_455 : decode cL_law 455 = .ok (.iadd, 1) := by decide +kernel
theorem dL_law_456 : decode cL_law 456 = .ok (.iaload, 1) := by decide +kernel
theorem dL_law_457 : decode cL_law 457 = .ok (.invokevirtual 41, 3) := by decide +kernel
theorem dL_law_460 : decode cL_law 460 = .ok (.pop2, 1) := by decide +kernel
theorem dL_law_461 : decode cL_law 461 = .ok (.aload_n 2, 1) := by decide +kernel
theorem dL_law_462 : decode cL_law 462 = .ok (.aload_n 0, 1) := by decide +kernel
theorem dL_law_463 : decode cL_law 463 = .ok (.iload_n 3, 1) := by decide +kernel
theorem dL_law_464 : decode cL_law 464 = .ok (.iconst 1, 1) := by decide +kernel
theorem dL_law_465 : decode cL_law 465 = .ok (.iadd, 1) := by decide +kernel
theorem dL_law_466 : decode cL_law 466 = .ok (.iaload, 1) := by decide +kernel
theorem dL_law_467 : decode cL_law 467 = .ok (.aload_n 0, 1) := by decide +kernel
theorem dL_law_468 : decode cL_law 468 = .ok (.iload_n 3, 1) := by decide +kernel
theorem dL_law_469 : decode cL_law 469 = .ok (.iconst 2, 1) := by decide +kernel
theorem dL_law_470 : decode cL_law 470 = .ok (.iadd, 1) := by decide +kernel
theorem dL_law_471 : decode cL_law 471 = .ok (.iaload, 1) := by decide +kernel
theorem dL_law_472 : decode cL_law 472 = .ok (.aload_n 0, 1) := by decide +kernel
theorem dL_law_473 : decode cL_law 473 = .ok (.iload_n 3, 1) := by decide +kernel
theorem dL_law_474 : decode cL_law 474 = .ok (.iconst 3, 1) := by decide +kernel
theorem dL_law_475 : decode cL_law 475 = .ok (.iadd, 1) := by decide +kernel
theorem dL_law_476 : decode cL_law 476 = .ok (.iaload, 1) := by decide +kernel
theorem dL_law_477 : decode cL_law 477 = .ok (.aload_n 0, 1) := by decide +kernel
theorem dL_law_478 : decode cL_law 478 = .ok (.iload_n 3, 1) := by decide +kernel
theorem dL_law_479 : decode cL_law 479 = .ok (.iconst 4, 1) := by decide +kernel
theorem dL_law_480 : decode cL_law 480 = .ok (.iadd, 1) := by decide +kernel
theorem dL_law_481 : decode cL_law 481 = .ok (.iaload, 1) := by decide +kernel
theorem dL_law_482 : decode cL_law 482 = .ok (.invokevirtual 45, 3) := by decide +kernel
theorem dL_law_485 : decode cL_law 485 = .ok (.pop2, 1) := by decide +kernel
theorem dL_law_486 : decode cL_law 486 = .ok (.goto 1780, 3) := by decide +kernel
theorem dL_law_489 : decode cL_law 489 = .ok (.aload_n 1, 1) := by decide +kernel
theorem dL_law_490 : decode cL_law 490 = .ok (.aload_n 0, 1) := by decide +kernel
theorem dL_law_491 : decode cL_law 491 = .ok (.iload_n 3, 1) := by decide +kernel
theorem dL_law_492 : decode cL_law 492 = .ok (.iconst 1, 1) := by decide +kernel
theorem dL_law_493 : decode cL_law 493 = .ok (.iadd, 1) := by decide +kernel
theorem dL_law_494 : decode cL_law 494 = .ok (.iaload, 1) := by decide +kernel
theorem dL_law_495 : decode cL_law 495 = .ok (.aload_n 0, 1) := by decide +kernel
theorem dL_law_496 : decode cL_law 496 = .ok (.iload_n 3, 1) := by decide +kernel
theorem dL_law_497 : decode cL_law 497 = .ok (.iconst 2, 1) := by decide +kernel
theorem dL_law_498 : decode cL_law 498 = .ok (.iadd, 1) := by decide +kernel
theorem dL_law_499 : decode cL_law 499 = .ok (.iaload, 1) := by decide +kernel
theorem dL_law_500 : decode cL_law 500 = .ok (.invokevirtual 46, 3) := by decide +kernel
theorem dL_law_503 : decode cL_law 503 = .ok (.pop2, 1) := by decide +kernel
theorem dL_law_504 : decode cL_law 504 = .ok (.aload_n 2, 1) := by decide +kernel
theorem dL_law_505 : decode cL_law 505 = .ok (.aload_n 0, 1) := by decide +kernel
theorem dL_law_506 : decode cL_law 506 = .ok (.iload_n 3, 1) := by decide +kernel
theorem dL_law_507 : decode cL_law 507 = .ok (.iconst 1, 1) := by decide +kernel
theorem dL_law_508 : decode cL_law 508 = .ok (.iadd, 1) := by decide +kernel
theorem dL_law_509 : decode cL_law 509 = .ok (.iaload, 1) := by decide +kernel
theorem dL_law_510 : decode cL_law 510 = .ok (.aload_n 0, 1) := by decide +kernel
theorem dL_law_511 : decode cL_law 511 = .ok (.iload_n 3, 1) := by decide +kernel
theorem dL_law_512 : decode cL_law 512 = .ok (.iconst 2, 1) := by decide +kernel
theorem dL_law_513 : decode cL_law 513 = .ok (.iadd, 1) := by decide +kernel
theorem dL_law_514 : decode cL_law 514 = .ok (.iaload, 1) := by decide +kernel
theorem dL_law_515 : decode cL_law 515 = .ok (.invokevirtual 49, 3) := by decide +kernel
theorem dL_law_518 : decode cL_law 518 = .ok (.pop2, 1) := by decide +kernel
theorem dL_law_519 : decode cL_law 519 = .ok (.goto 1747, 3) := by decide +kernel
theorem dL_law_522 : decode cL_law 522 = .ok (.aload_n 1, 1) := by decide +kernel
theorem dL_law_523 : decode cL_law 523 = .ok (.aload_n 0, 1) := by decide +kernel
theorem dL_law_524 : decode cL_law 524 = .ok (.iload_n 3, 1) := by decide +kernel
theorem dL_law_525 : decode cL_law 525 = .ok (.iconst 1, 1) := by decide +kernel
theorem dL_law_526 : decode cL_law 526 = .ok (.iadd, 1) := by decide +kernel
theorem dL_law_527 : decode cL_law 527 = .ok (.iaload, 1) := by decide +kernel
theorem dL_law_528 : decode cL_law 528 = .ok (.aload_n 0, 1) := by decide +kernel
theorem dL_law_529 : decode cL_law 529 = .ok (.iload_n 3, 1) := by decide +kernel
theorem dL_law_530 : decode cL_law 530 = .ok (.iconst 2, 1) := by decide +kernel
theorem dL_law_531 : decode cL_law 531 = .ok (.iadd, 1) := by decide +kernel
theorem dL_law_532 : decode cL_law 532 = .ok (.iaload, 1) := by decide +kernel
theorem dL_law_533 : decode cL_law 533 = .ok (.invokevirtual 50, 3) := by decide +kernel
theorem dL_law_536 : decode cL_law 536 = .ok (.pop2, 1) := by decide +kernel
theorem dL_law_537 : decode cL_law 537 = .ok (.aload_n 2, 1) := by decide +kernel
theorem dL_law_538 : decode cL_law 538 = .ok (.aload_n 0, 1) := by decide +kernel
theorem dL_law_539 : decode cL_law 539 = .ok (.iload_n 3, 1) := by decide +kernel
theorem dL_law_540 : decode cL_law 540 = .ok (.iconst 1, 1) := by decide +kernel
theorem dL_law_541 : decode cL_law 541 = .ok (.iadd, 1) := by decide +kernel
theorem dL_law_542 : decode cL_law 542 = .ok (.iaload, 1) := by decide +kernel
theorem dL_law_543 : decode cL_law 543 = .ok (.aload_n 0, 1) := by decide +kernel
theorem dL_law_544 : decode cL_law 544 = .ok (.iload_n 3, 1) := by decide +kernel
theorem dL_law_545 : decode cL_law 545 = .ok (.iconst 2, 1) := by decide +kernel
theorem dL_law_546 : decode cL_law 546 = .ok (.iadd, 1) := by decide +kernel
theorem dL_law_547 : decode cL_law 547 = .ok (.iaload, 1) := by decide +kernel
theorem dL_law_548 : decode cL_law 548 = .ok (.invokevirtual 53, 3) := by decide +kernel
theorem dL_law_551 : decode cL_law 551 = .ok (.pop2, 1) := by decide +kernel
theorem dL_law_552 : decode cL_law 552 = .ok (.goto 1714, 3) := by decide +kernel
theorem dL_law_555 : decode cL_law 555 = .ok (.aload_n 1, 1) := by decide +kernel
theorem dL_law_556 : decode cL_law 556 = .ok (.aload_n 0, 1) := by decide +kernel
theorem dL_law_557 : decode cL_law 557 = .ok (.iload_n 3, 1) := by decide +kernel
theorem dL_law_558 : decode cL_law 558 = .ok (.iconst 1, 1) := by decide +kernel
theorem dL_law_559 : decode cL_law 559 = .ok (.iadd, 1) := by decide +kernel
theorem dL_law_560 : decode cL_law 560 = .ok (.iaload, 1) := by decide +kernel
theorem dL_law_561 : decode cL_law 561 = .ok (.aload_n 0, 1) := by decide +kernel
theorem dL_law_562 : decode cL_law 562 = .ok (.iload_n 3, 1) := by decide +kernel
theorem dL_law_563 : decode cL_law 563 = .ok (.iconst 2, 1) := by decide +kernel
theorem dL_law_564 : decode cL_law 564 = .ok (.iadd, 1) := by decide +kernel
theorem dL_law_565 : decode cL_law 565 = .ok (.iaload, 1) := by decide +kernel
theorem dL_law_566 : decode cL_law 566 = .ok (.invokevirtual 54, 3) := by decide +kernel
theorem dL_law_569 : decode cL_law 569 = .ok (.pop, 1) := by decide +kernel
theorem dL_law_570 : decode cL_law 570 = .ok (.aload_n 2, 1) := by decide +kernel
theorem dL_law_571 : decode cL_law 571 = .ok (.aload_n 0, 1) := by decide +kernel
theorem dL_law_572 : decode cL_law 572 = .ok (.iload_n 3, 1) := by decide +kernel
theorem dL_law_573 : decode cL_law 573 = .ok (.iconst 1, 1) := by decide +kernel
theorem dL_law_574 : decode cL_law 574 = .ok (.iadd, 1) := by decide +kernel
theorem dL_law_575 : decode cL_law 575 = .ok (.iaload, 1) := by decide +kernel
theorem dL_law_576 : decode cL_law 576 = .ok (.aload_n 0, 1) := by decide +kernel
theorem dL_law_577 : decode cL_law 577 = .ok (.iload_n 3, 1) := by decide +kernel
theorem dL_law_578 : decode cL_law 578 = .ok (.iconst 2, 1) := by decide +kernel
theorem dL_law_579 : decode cL_law 579 = .ok (.iadd, 1) := by decide +kernel
theorem dL_law_580 : decode cL_law 580 = .ok (.iaload, 1) := by decide +kernel
theorem dL_law_581 : decode cL_law 581 = .ok (.invokevirtual 58, 3) := by decide +kernel
theorem dL_law_584 : decode cL_law 584 = .ok (.pop, 1) := by decide +kernel
theorem dL_law_585 : decode cL_law 585 = .ok (.goto 1681, 3) := by decide +kernel
theorem sV_L_13 : SiteV RL 13 yX9_feed cX9_feed 6 (some .int) 5 := ⟨ml_L_13, im_X9_feed, se_X9_feed, ini_X9, co_X9_feed, by decide +kernel⟩
theorem sV_L_17 : SiteV RL 17 yX10_feed cX10_feed 6 (some .int) 5 := ⟨ml_L_17, im_X10_feed, se_X10_feed, ini_X10, co_X10_feed, by decide +kernel⟩
theorem sV_L_18 : SiteV RL 18 yX9_end cX9_end 2 (some .int) 1 := ⟨ml_L_18, im_X9_end, se_X9_end, ini_X9, co_X9_end, by decide +kernel⟩
theorem sV_L_22 : SiteV RL 22 yX10_end cX10_end 2 (some .int) 1 := ⟨ml_L_22, im_X10_end, se_X10_end, ini_X10, co_X10_end, by decide +kernel⟩
theorem sV_L_23 : SiteV RL 23 yX9_land cX9_land 2 (some .int) 0 := ⟨ml_L_23, im_X9_land, se_X9_land, ini_X9, co_X9_land, by decide +kernel⟩
theorem sV_L_27 : SiteV RL 27 yX10_land cX10_land 1 (some .int) 0 := ⟨ml_L_27, im_X10_land, se_X10_land, ini_X10, co_X10_land, by decide +kernel⟩
theorem sV_L_28 : SiteV RL 28 yX9_fault cX9_fault 2 (some .int) 1 := ⟨ml_L_28, im_X9_fault, se_X9_fault, ini_X9, co_X9_fault, by decide +kernel⟩
theorem sV_L_31 : SiteV RL 31 yX10_fault cX10_fault 2 (some .int) 1 := ⟨ml_L_31, im_X10_fault, se_X10_fault, ini_X10, co_X10_fault, by decide +kernel⟩
theorem sV_L_32 : SiteV RL 32 yX9_shuts cX9_shuts 3 (some .long) 2 := ⟨ml_L_32, im_X9_shuts, se_X9_shuts, ini_X9, co_X9_shuts, by decide +kernel⟩
theorem sV_L_36 : SiteV RL 36 yX10_shuts cX10_shuts 3 (some .long) 2 := ⟨ml_L_36, im_X10_shuts, se_X10_shuts, ini_X10, co_X10_shuts, by decide +kernel⟩
theorem sV_L_37 : SiteV RL 37 yX9_by cX9_by 6 (some .long) 2 := ⟨ml_L_37, im_X9_by, se_X9_by, ini_X9, co_X9_by, by decide +kernel⟩
theorem sV_L_40 : SiteV RL 40 yX10_by cX10_by 3 (some .long) 2 := ⟨ml_L_40, im_X10_by, se_X10_by, ini_X10, co_X10_by, by decide +kernel⟩
theorem sV_L_41 : SiteV RL 41 yX9_both cX9_both 5 (some .long) 4 := ⟨ml_L_41, im_X9_both, se_X9_both, ini_X9, co_X9_both, by decide +kernel⟩
theorem sV_L_45 : SiteV RL 45 yX10_both cX10_both 5 (some .long) 4 := ⟨ml_L_45, im_X10_both, se_X10_both, ini_X10, co_X10_both, by decide +kernel⟩
theorem sV_L_46 : SiteV RL 46 yX9_together cX9_together 6 (some .long) 2 := ⟨ml_L_46, im_X9_together, se_X9_together, ini_X9, co_X9_together, by decide +kernel⟩
theorem sV_L_49 : SiteV RL 49 yX10_together cX10_together 6 (some .long) 2 := ⟨ml_L_49, im_X10_together, se_X10_together, ini_X10, co_X10_together, by decide +kernel⟩
theorem sV_L_50 : SiteV RL 50 yX9_set cX9_set 3 (some .long) 2 := ⟨ml_L_50, im_X9_set, se_X9_set, ini_X9, co_X9_set, by decide +kernel⟩
theorem sV_L_53 : SiteV RL 53 yX10_set cX10_set 3 (some .long) 2 := ⟨ml_L_53, im_X10_set, se_X10_set, ini_X10, co_X10_set, by decide +kernel⟩
theorem sV_L_54 : SiteV RL 54 yX9_when cX9_when 6 (some .int) 2 := ⟨ml_L_54, im_X9_when, se_X9_when, ini_X9, co_X9_when, by decide +kernel⟩
theorem sV_L_58 : SiteV RL 58 yX10_when cX10_when 4 (some .int) 2 := ⟨ml_L_58, im_X10_when, se_X10_when, ini_X10, co_X10_when, by decide +kernel⟩
set_option maxHeartbeats 4000000 in
set_option maxRecDepth 100000 in
theorem lc_0 {p : Program} {e : Env} {s : State} {m : MethodId} {below : List Frame} {meth : Method} {c : Code} {l : Launch} {b L : Nat} {xs : Nat → Int32} (D : va_G) (cy : Nat → ClassId) (adK adV : Nat → Nat) (base xo mo : Nat) (C0 : lw_At p s m meth c b L xs) (hK : KK D cy s) (hSS : SS adK adV base s s.heap) (hZ : base ≤ s.heap.size) (hZ2 : s.heap.size ≤ base) (hbA : ¬ RA base b) (hLs : L ≤ 3584) (τ : Nat → Nat) (G : Gh) (i : Int32) (hi0 : 0 ≤ i.toInt) (hi7 : i.toInt + 7 ≤ L) (hLI : LI τ G xo mo) {H : Heap} {locs : List Loc} (hT : TY D cy base τ G H) (hS : va_S (RA base) s.heap H locs) {ls : Array Slot} (hl : lv_has ls 4 [(3, .int i), (2, .ref mo), (1, .ref xo), (0, .ref b)]) {cells slots : Nat} (hroom : cells + 100 ≤ room_1.cells ∧ slots + 1000 ≤ room_1.slots) (kk : ∀ (τ1 : Nat → Nat) (G1 : Gh) (H1 : Heap) (locs1 : List Loc) (ls1 : Array Slot), LI τ1 G1 xo mo → TY D cy base τ1 G1 H1 → va_S (RA base) s.heap H1 locs1 → lv_has ls1 4 [(3, .int i), (2, .ref mo), (1, .ref xo), (0, .ref b)] → W p l e room_1 s m #[Value.ref b] below meth c H1 locs1 (cells + 10) (slots + 200) (lw_Z below #[Value.ref b] s) (F0 m 2266 ls1 [])) : W p l e room_1 s m #[Value.ref b] below meth c H locs cells slots (lw_Z below #[Value.ref b] s) (F0 m 248 ls []) := by
  obtain ⟨hx, hb, hr, hml, hown, hts, hX, hbl, hlocks, hgv⟩ := id C0
  have hown : s.vm.findClass RL = some m.cls := hown
  have hb : c.code = cL_law := hb
  have hts : ∀ w ∈ GW, w.before #[Value.ref b] s = true := fun w h => hts w (gw_tbl w h)
  have h_xo := hLI.1
  have h_mo := hLI.2.1
  have hF : Fr τ [1, 2, 3, 4, 6, 7, 11, 20, 25, 26, 27, 28, 29, 30, 31, 32, 33, 34, 35, 36, 37, 38, 39, 40, 51, 52, 53, 54, 55, 66, 67, 68, 69, 70, 71, 72, 73, 74, 75, 76, 77, 78, 79, 80, 81, 82, 83, 84, 85, 86, 87, 88, 89, 90, 91, 1001, 1002, 1004, 1023, 1024] G G := Fr.rf
  obtain ⟨w1, ew1⟩ : ∃ y : Int32, y = xs (i.toInt.toNat + 1) := ⟨_, rfl⟩
  obtain ⟨w2, ew2⟩ : ∃ y : Int32, y = xs (i.toInt.toNat + 2) := ⟨_, rfl⟩
  obtain ⟨w3, ew3⟩ : ∃ y : Int32, y = xs (i.toInt.toNat + 3) := ⟨_, rfl⟩
  obtain ⟨w4, ew4⟩ : ∃ y : Int32, y = xs (i.toInt.toNat + 4) := ⟨_, rfl⟩
  obtain ⟨w5, ew5⟩ : ∃ y : Int32, y = xs (i.toInt.toNat + 5) := ⟨_, rfl⟩
  refine lv_aload_n hx hb dL_law_248 rfl (lv_at hl 2 rfl) ?_
  refine lv_aload_n hx hb dL_law_249 rfl (lv_at hl 3 rfl) ?_
  refine lv_iload_n hx hb dL_law_250 rfl (lv_at hl 0 rfl) ?_
  refine lv_iconst (v := 1) hx hb dL_law_251 (by decide) ?_
  refine lv_iadd hx hb dL_law_252 ?_
  refine lv_topi (fun z_1 ez_1 => ?_)
  have tz_1 : z_1.toInt = i.toInt + 1 := add_t ez_1 (show -2147483648 ≤ i.toInt + 1 by omega) (show i.toInt + 1 < 2147483648 by omega)
  refine va_sld (i := z_1) hx hb hX hbl hbA hS (vp_in_iff.mpr ⟨by omega, by omega⟩) dL_law_253 ?_
  refine W.eq (g2 := F0 m 254 ls [.int w1, .ref xo]) (by rw [ew1, show z_1.toNatClampNeg = i.toInt.toNat + 1 from (show z_1.toInt.toNat = _ by omega)]) ?_
  refine lv_aload_n hx hb dL_law_254 rfl (lv_at hl 3 rfl) ?_
  refine lv_iload_n hx hb dL_law_255 rfl (lv_at hl 0 rfl) ?_
  refine lv_iconst (v := 2) hx hb dL_law_256 (by decide) ?_
  refine lv_iadd hx hb dL_law_257 ?_
  refine lv_topi (fun z_2 ez_2 => ?_)
  have tz_2 : z_2.toInt = i.toInt + 2 := add_t ez_2 (show -2147483648 ≤ i.toInt + 2 by omega) (show i.toInt + 2 < 2147483648 by omega)
  refine va_sld (i := z_2) hx hb hX hbl hbA hS (vp_in_iff.mpr ⟨by omega, by omega⟩) dL_law_258 ?_
  refine W.eq (g2 := F0 m 259 ls [.int w2, .int w1, .ref xo]) (by rw [ew2, show z_2.toNatClampNeg = i.toInt.toNat + 2 from (show z_2.toInt.toNat = _ by omega)]) ?_
  refine lv_aload_n hx hb dL_law_259 rfl (lv_at hl 3 rfl) ?_
  refine lv_iload_n hx hb dL_law_260 rfl (lv_at hl 0 rfl) ?_
  refine lv_iconst (v := 3) hx hb dL_law_261 (by decide) ?_
  refine lv_iadd hx hb dL_law_262 ?_
  refine lv_topi (fun z_3 ez_3 => ?_)
  have tz_3 : z_3.toInt = i.toInt + 3 := add_t ez_3 (show -2147483648 ≤ i.toInt + 3 by omega) (show i.toInt + 3 < 2147483648 by omega)
  refine va_sld (i := z_3) hx hb hX hbl hbA hS (vp_in_iff.mpr ⟨by omega, by omega⟩) dL_law_263 ?_
  refine W.eq (g2 := F0 m 264 ls [.int w3, .int w2, .int w1, .ref xo]) (by rw [ew3, show z_3.toNatClampNeg = i.toInt.toNat + 3 from (show z_3.toInt.toNat = _ by omega)]) ?_
  refine lv_aload_n hx hb dL_law_264 rfl (lv_at hl 3 rfl) ?_
  refine lv_iload_n hx hb dL_law_265 rfl (lv_at hl 0 rfl) ?_
  refine lv_iconst (v := 4) hx hb dL_law_266 (by decide) ?_
  refine lv_iadd hx hb dL_law_267 ?_
  refine lv_topi (fun z_4 ez_4 => ?_)
  have tz_4 : z_4.toInt = i.toInt + 4 := add_t ez_4 (show -2147483648 ≤ i.toInt + 4 by omega) (show i.toInt + 4 < 2147483648 by omega)
  refine va_sld (i := z_4) hx hb hX hbl hbA hS (vp_in_iff.mpr ⟨by omega, by omega⟩) dL_law_268 ?_
  refine W.eq (g2 := F0 m 269 ls [.int w4, .int w3, .int w2, .int w1, .ref xo]) (by rw [ew4, show z_4.toNatClampNeg = i.toInt.toNat + 4 from (show z_4.toInt.toNat = _ by omega)]) ?_
  refine lv_aload_n hx hb dL_law_269 rfl (lv_at hl 3 rfl) ?_
  refine lv_iload_n hx hb dL_law_270 rfl (lv_at hl 0 rfl) ?_
  refine lv_iconst (v := 5) hx hb dL_law_271 (by decide) ?_
  refine lv_iadd hx hb dL_law_272 ?_
  refine lv_topi (fun z_5 ez_5 => ?_)
  have tz_5 : z_5.toInt = i.toInt + 5 := add_t ez_5 (show -2147483648 ≤ i.toInt + 5 by omega) (show i.toInt + 5 < 2147483648 by omega)
  refine va_sld (i := z_5) hx hb hX hbl hbA hS (vp_in_iff.mpr ⟨by omega, by omega⟩) dL_law_273 ?_
  refine W.eq (g2 := F0 m 274 ls [.int w5, .int w4, .int w3, .int w2, .int w1, .ref xo]) (by rw [ew5, show z_5.toNatClampNeg = i.toInt.toNat + 5 from (show z_5.toInt.toNat = _ by omega)]) ?_
  refine t_calli (runV (As := [.int w1, .int w2, .int w3, .int w4, .int w5]) (rest := []) ⟨hx, hb, hml, hown, hts⟩ (t_X9_feed l D cy base τ G xo h_xo w1 w2 w3 w4 w5) sV_L_13 hK (t_recv cf_1 hK hT h_xo) ⟨Nat.le_trans hZ hS.1, hT⟩ ⟨Nat.le_of_ble_eq_true rfl, Nat.le_of_ble_eq_true rfl⟩ rfl hl.1 rfl (Nat.le_of_ble_eq_true rfl) dL_law_274 ⟨by have q9 := hroom.1; omega, by have q9 := hroom.2; omega⟩) hS (fun r_6 G_6 H locs hF_6 hr_6 hT hS => ?_)
  have hF := hF.tr hF_6 rfl
  have hLI := hLI.fr EX.rf hF_6 rfl
  refine lv_pop hx hb dL_law_277 rfl ?_
  refine lv_aload_n hx hb dL_law_278 rfl (lv_at hl 1 rfl) ?_
  refine lv_aload_n hx hb dL_law_279 rfl (lv_at hl 3 rfl) ?_
  refine lv_iload_n hx hb dL_law_280 rfl (lv_at hl 0 rfl) ?_
  refine lv_iconst (v := 1) hx hb dL_law_281 (by decide) ?_
  refine lv_iadd hx hb dL_law_282 ?_
  refine lv_topi (fun z_7 ez_7 => ?_)
  have w_8 : z_1 = z_7 := ez_1.trans ez_7.symm
  subst w_8
  refine va_sld (i := z_1) hx hb hX hbl hbA hS (vp_in_iff.mpr ⟨by omega, by omega⟩) dL_law_283 ?_
  refine W.eq (g2 := F0 m 284 ls [.int w1, .ref mo]) (by rw [ew1, show z_1.toNatClampNeg = i.toInt.toNat + 1 from (show z_1.toInt.toNat = _ by omega)]) ?_
  refine lv_aload_n hx hb dL_law_284 rfl (lv_at hl 3 rfl) ?_
  refine lv_iload_n hx hb dL_law_285 rfl (lv_at hl 0 rfl) ?_
  refine lv_iconst (v := 2) hx hb dL_law_286 (by decide) ?_
  refine lv_iadd hx hb dL_law_287 ?_
  refine lv_topi (fun z_9 ez_9 => ?_)
  have w_10 : z_2 = z_9 := ez_2.trans ez_9.symm
  subst w_10
  refine va_sld (i := z_2) hx hb hX hbl hbA hS (vp_in_iff.mpr ⟨by omega, by omega⟩) dL_law_288 ?_
  refine W.eq (g2 := F0 m 289 ls [.int w2, .int w1, .ref mo]) (by rw [ew2, show z_2.toNatClampNeg = i.toInt.toNat + 2 from (show z_2.toInt.toNat = _ by omega)]) ?_
  refine lv_aload_n hx hb dL_law_289 rfl (lv_at hl 3 rfl) ?_
  refine lv_iload_n hx hb dL_law_290 rfl (lv_at hl 0 rfl) ?_
  refine lv_iconst (v := 3) hx hb dL_law_291 (by decide) ?_
  refine lv_iadd hx hb dL_law_292 ?_
  refine lv_topi (fun z_11 ez_11 => ?_)
  have w_12 : z_3 = z_11 := ez_3.trans ez_11.symm
  subst w_12
  refine va_sld (i := z_3) hx hb hX hbl hbA hS (vp_in_iff.mpr ⟨by omega, by omega⟩) dL_law_293 ?_
  refine W.eq (g2 := F0 m 294 ls [.int w3, .int w2, .int w1, .ref mo]) (by rw [ew3, show z_3.toNatClampNeg = i.toInt.toNat + 3 from (show z_3.toInt.toNat = _ by omega)]) ?_
  refine lv_aload_n hx hb dL_law_294 rfl (lv_at hl 3 rfl) ?_
  refine lv_iload_n hx hb dL_law_295 rfl (lv_at hl 0 rfl) ?_
  refine lv_iconst (v := 4) hx hb dL_law_296 (by decide) ?_
  refine lv_iadd hx hb dL_law_297 ?_
  refine lv_topi (fun z_13 ez_13 => ?_)
  have w_14 : z_4 = z_13 := ez_4.trans ez_13.symm
  subst w_14
  refine va_sld (i := z_4) hx hb hX hbl hbA hS (vp_in_iff.mpr ⟨by omega, by omega⟩) dL_law_298 ?_
  refine W.eq (g2 := F0 m 299 ls [.int w4, .int w3, .int w2, .int w1, .ref mo]) (by rw [ew4, show z_4.toNatClampNeg = i.toInt.toNat + 4 from (show z_4.toInt.toNat = _ by omega)]) ?_
  refine lv_aload_n hx hb dL_law_299 rfl (lv_at hl 3 rfl) ?_
  refine lv_iload_n hx hb dL_law_300 rfl (lv_at hl 0 rfl) ?_
  refine lv_iconst (v := 5) hx hb dL_law_301 (by decide) ?_
  refine lv_iadd hx hb dL_law_302 ?_
  refine lv_topi (fun z_15 ez_15 => ?_)
  have w_16 : z_5 = z_15 := ez_5.trans ez_15.symm
  subst w_16
  refine va_sld (i := z_5) hx hb hX hbl hbA hS (vp_in_iff.mpr ⟨by omega, by omega⟩) dL_law_303 ?_
  refine W.eq (g2 := F0 m 304 ls [.int w5, .int w4, .int w3, .int w2, .int w1, .ref mo]) (by rw [ew5, show z_5.toNatClampNeg = i.toInt.toNat + 5 from (show z_5.toInt.toNat = _ by omega)]) ?_
  refine t_calli (runV (As := [.int w1, .int w2, .int w3, .int w4, .int w5]) (rest := []) ⟨hx, hb, hml, hown, hts⟩ (t_X10_feed l D cy base τ G_6 mo h_mo w1 w2 w3 w4 w5) sV_L_17 hK (t_recv cf_11 hK hT h_mo) ⟨Nat.le_trans hZ hS.1, hT⟩ ⟨Nat.le_of_ble_eq_true rfl, Nat.le_of_ble_eq_true rfl⟩ rfl hl.1 rfl (Nat.le_of_ble_eq_true rfl) dL_law_304 ⟨by have q9 := hroom.1; omega, by have q9 := hroom.2; omega⟩) hS (fun r_17 G_17 H locs hF_17 hr_17 hT hS => ?_)
  have hF := hF.tr hF_17 rfl
  have hLI := hLI.fr EX.rf hF_17 rfl
  refine lv_pop hx hb dL_law_307 rfl ?_
  refine lv_goto (tgt := 2266) hx hb dL_law_308 (by decide) ?_
  exact W.widen (k := cells + 10) (n := slots + 200) (by omega) (by omega) (kk τ G_17 H locs ls hLI hT hS (lv_sub hl [0, 1, 2, 3] rfl))
set_option maxHeartbeats 4000000 in
set_option maxRecDepth 100000 in
theorem lc_1 {p : Program} {e : Env} {s : State} {m : MethodId} {below : List Frame} {meth : Method} {c : Code} {l : Launch} {b L : Nat} {xs : Nat → Int32} (D : va_G) (cy : Nat → ClassId) (adK adV : Nat → Nat) (base xo mo : Nat) (C0 : lw_At p s m meth c b L xs) (hK : KK D cy s) (hSS : SS adK adV base s s.heap) (hZ : base ≤ s.heap.size) (hZ2 : s.heap.size ≤ base) (hbA : ¬ RA base b) (hLs : L ≤ 3584) (τ : Nat → Nat) (G : Gh) (i : Int32) (hi0 : 0 ≤ i.toInt) (hi7 : i.toInt + 7 ≤ L) (hLI : LI τ G xo mo) {H : Heap} {locs : List Loc} (hT : TY D cy base τ G H) (hS : va_S (RA base) s.heap H locs) {ls : Array Slot} (hl : lv_has ls 4 [(3, .int i), (2, .ref mo), (1, .ref xo), (0, .ref b)]) {cells slots : Nat} (hroom : cells + 100 ≤ room_1.cells ∧ slots + 1000 ≤ room_1.slots) (kk : ∀ (τ1 : Nat → Nat) (G1 : Gh) (H1 : Heap) (locs1 : List Loc) (ls1 : Array Slot), LI τ1 G1 xo mo → TY D cy base τ1 G1 H1 → va_S (RA base) s.heap H1 locs1 → lv_has ls1 4 [(3, .int i), (2, .ref mo), (1, .ref xo), (0, .ref b)] → W p l e room_1 s m #[Value.ref b] below meth c H1 locs1 (cells + 10) (slots + 200) (lw_Z below #[Value.ref b] s) (F0 m 2266 ls1 [])) : W p l e room_1 s m #[Value.ref b] below meth c H locs cells slots (lw_Z below #[Value.ref b] s) (F0 m 311 ls []) := by
  obtain ⟨hx, hb, hr, hml, hown, hts, hX, hbl, hlocks, hgv⟩ := id C0
  have hown : s.vm.findClass RL = some m.cls := hown
  have hb : c.code = cL_law := hb
  have hts : ∀ w ∈ GW, w.before #[Value.ref b] s = true := fun w h => hts w (gw_tbl w h)
  have h_xo := hLI.1
  have h_mo := hLI.2.1
  have hF : Fr τ [1, 2, 3, 4, 6, 7, 11, 20, 25, 26, 27, 28, 29, 30, 31, 32, 33, 34, 35, 36, 37, 38, 39, 40, 51, 52, 53, 54, 55, 66, 67, 68, 69, 70, 71, 72, 73, 74, 75, 76, 77, 78, 79, 80, 81, 82, 83, 84, 85, 86, 87, 88, 89, 90, 91, 1001, 1002, 1004, 1023, 1024] G G := Fr.rf
  obtain ⟨w1, ew1⟩ : ∃ y : Int32, y = xs (i.toInt.toNat + 1) := ⟨_, rfl⟩
  refine lv_aload_n hx hb dL_law_311 rfl (lv_at hl 2 rfl) ?_
  refine lv_aload_n hx hb dL_law_312 rfl (lv_at hl 3 rfl) ?_
  refine lv_iload_n hx hb dL_law_313 rfl (lv_at hl 0 rfl) ?_
  refine lv_iconst (v := 1) hx hb dL_law_314 (by decide) ?_
  refine lv_iadd hx hb dL_law_315 ?_
  refine lv_topi (fun z_1 ez_1 => ?_)
  have tz_1 : z_1.toInt = i.toInt + 1 := add_t ez_1 (show -2147483648 ≤ i.toInt + 1 by omega) (show i.toInt + 1 < 2147483648 by omega)
  refine va_sld (i := z_1) hx hb hX hbl hbA hS (vp_in_iff.mpr ⟨by omega, by omega⟩) dL_law_316 ?_
  refine W.eq (g2 := F0 m 317 ls [.int w1, .ref xo]) (by rw [ew1, show z_1.toNatClampNeg = i.toInt.toNat + 1 from (show z_1.toInt.toNat = _ by omega)]) ?_
  refine t_calli (runV (As := [.int w1]) (rest := []) ⟨hx, hb, hml, hown, hts⟩ (t_X9_end l D cy base τ G xo h_xo w1) sV_L_18 hK (t_recv cf_1 hK hT h_xo) ⟨Nat.le_trans hZ hS.1, hT⟩ ⟨Nat.le_of_ble_eq_true rfl, Nat.le_of_ble_eq_true rfl⟩ rfl hl.1 rfl (Nat.le_of_ble_eq_true rfl) dL_law_317 ⟨by have q9 := hroom.1; omega, by have q9 := hroom.2; omega⟩) hS (fun r_2 G_2 H locs hF_2 hr_2 hT hS => ?_)
  have hF := hF.tr hF_2 rfl
  have hLI := hLI.fr EX.rf hF_2 rfl
  refine lv_pop hx hb dL_law_320 rfl ?_
  refine lv_aload_n hx hb dL_law_321 rfl (lv_at hl 1 rfl) ?_
  refine lv_aload_n hx hb dL_law_322 rfl (lv_at hl 3 rfl) ?_
  refine lv_iload_n hx hb dL_law_323 rfl (lv_at hl 0 rfl) ?_
  refine lv_iconst (v := 1) hx hb dL_law_324 (by decide) ?_
  refine lv_iadd hx hb dL_law_325 ?_
  refine lv_topi (fun z_3 ez_3 => ?_)
  have w_4 : z_1 = z_3 := ez_1.trans ez_3.symm
  subst w_4
  refine va_sld (i := z_1) hx hb hX hbl hbA hS (vp_in_iff.mpr ⟨by omega, by omega⟩) dL_law_326 ?_
  refine W.eq (g2 := F0 m 327 ls [.int w1, .ref mo]) (by rw [ew1, show z_1.toNatClampNeg = i.toInt.toNat + 1 from (show z_1.toInt.toNat = _ by omega)]) ?_
  refine t_calli (runV (As := [.int w1]) (rest := []) ⟨hx, hb, hml, hown, hts⟩ (t_X10_end l D cy base τ G_2 mo h_mo w1) sV_L_22 hK (t_recv cf_11 hK hT h_mo) ⟨Nat.le_trans hZ hS.1, hT⟩ ⟨Nat.le_of_ble_eq_true rfl, Nat.le_of_ble_eq_true rfl⟩ rfl hl.1 rfl (Nat.le_of_ble_eq_true rfl) dL_law_327 ⟨by have q9 := hroom.1; omega, by have q9 := hroom.2; omega⟩) hS (fun r_5 G_5 H locs hF_5 hr_5 hT hS => ?_)
  have hF := hF.tr hF_5 rfl
  have hLI := hLI.fr EX.rf hF_5 rfl
  refine lv_pop hx hb dL_law_330 rfl ?_
  refine lv_goto (tgt := 2266) hx hb dL_law_331 (by decide) ?_
  exact W.widen (k := cells + 10) (n := slots + 200) (by omega) (by omega) (kk τ G_5 H locs ls hLI hT hS (lv_sub hl [0, 1, 2, 3] rfl))
set_option maxHeartbeats 4000000 in
set_option maxRecDepth 100000 in
theorem lc_2 {p : Program} {e : Env} {s : State} {m : MethodId} {below : List Frame} {meth : Method} {c : Code} {l : Launch} {b L : Nat} {xs : Nat → Int32} (D : va_G) (cy : Nat → ClassId) (adK adV : Nat → Nat) (base xo mo : Nat) (C0 : lw_At p s m meth c b L xs) (hK : KK D cy s) (hSS : SS adK adV base s s.heap) (hZ : base ≤ s.heap.size) (hZ2 : s.heap.size ≤ base) (hbA : ¬ RA base b) (hLs : L ≤ 3584) (τ : Nat → Nat) (G : Gh) (i : Int32) (hi0 : 0 ≤ i.toInt) (hi7 : i.toInt + 7 ≤ L) (hLI : LI τ G xo mo) {H : Heap} {locs : List Loc} (hT : TY D cy base τ G H) (hS : va_S (RA base) s.heap H locs) {ls : Array Slot} (hl : lv_has ls 4 [(3, .int i), (2, .ref mo), (1, .ref xo), (0, .ref b)]) {cells slots : Nat} (hroom : cells + 100 ≤ room_1.cells ∧ slots + 1000 ≤ room_1.slots) (kk : ∀ (τ1 : Nat → Nat) (G1 : Gh) (H1 : Heap) (locs1 : List Loc) (ls1 : Array Slot), LI τ1 G1 xo mo → TY D cy base τ1 G1 H1 → va_S (RA base) s.heap H1 locs1 → lv_has ls1 4 [(3, .int i), (2, .ref mo), (1, .ref xo), (0, .ref b)] → W p l e room_1 s m #[Value.ref b] below meth c H1 locs1 (cells + 10) (slots + 200) (lw_Z below #[Value.ref b] s) (F0 m 2266 ls1 [])) : W p l e room_1 s m #[Value.ref b] below meth c H locs cells slots (lw_Z below #[Value.ref b] s) (F0 m 334 ls []) := by
  obtain ⟨hx, hb, hr, hml, hown, hts, hX, hbl, hlocks, hgv⟩ := id C0
  have hown : s.vm.findClass RL = some m.cls := hown
  have hb : c.code = cL_law := hb
  have hts : ∀ w ∈ GW, w.before #[Value.ref b] s = true := fun w h => hts w (gw_tbl w h)
  have h_xo := hLI.1
  have h_mo := hLI.2.1
  have hF : Fr τ [1, 2, 3, 4, 6, 7, 11, 20, 25, 26, 27, 28, 29, 30, 31, 32, 33, 34, 35, 36, 37, 38, 39, 40, 51, 52, 53, 54, 55, 66, 67, 68, 69, 70, 71, 72, 73, 74, 75, 76, 77, 78, 79, 80, 81, 82, 83, 84, 85, 86, 87, 88, 89, 90, 91, 1001, 1002, 1004, 1023, 1024] G G := Fr.rf
  refine lv_aload_n hx hb dL_law_334 rfl (lv_at hl 2 rfl) ?_
  refine t_calle (runVs (As := []) (rest := []) ⟨hx, hb, hml, hown, hts⟩ (t_X9_land l D cy base τ G adK adV  xo h_xo) sV_L_23 hK hSS hS (t_recv cf_1 hK hT h_xo) ⟨Nat.le_trans hZ hS.1, hT⟩ ⟨Nat.le_of_ble_eq_true rfl, Nat.le_of_ble_eq_true rfl⟩ rfl hl.1 rfl (Nat.le_of_ble_eq_true rfl) dL_law_335 ⟨by have q9 := hroom.1; omega, by have q9 := hroom.2; omega⟩) hS (fun v_1 τ G H locs hE hF_1 hp_1 hT hS => ?_)
  have hF0 := hF.tr hF_1 rfl
  have h_mo_o := h_mo
  have h_mo : τ mo = 11 := hE.tg h_mo (by decide)
  have h_xo_o := h_xo
  have h_xo : τ xo = 1 := hE.tg h_xo (by decide)
  have hF : Fr τ [1, 2, 3, 4, 6, 7, 11, 20, 25, 26, 27, 28, 29, 30, 31, 32, 33, 34, 35, 36, 37, 38, 39, 40, 51, 52, 53, 54, 55, 66, 67, 68, 69, 70, 71, 72, 73, 74, 75, 76, 77, 78, 79, 80, 81, 82, 83, 84, 85, 86, 87, 88, 89, 90, 91, 1001, 1002, 1004, 1023, 1024] G G := Fr.rf
  obtain ⟨r_1, rfl, hr_1⟩ := hp_1
  refine W.eq (g2 := F0 m 338 ls [.int r_1]) rfl ?_
  have hLI := hLI.fr hE hF_1 rfl
  refine lv_pop hx hb dL_law_338 rfl ?_
  refine lv_aload_n hx hb dL_law_339 rfl (lv_at hl 1 rfl) ?_
  obtain ⟨tha, sa, e_tha, h_tha, e_sa, h_sa, hI⟩ := hLI.2.2.2.1
  have b_tha := e_tha
  have b_sa := e_sa
  obtain ⟨z_2, ez_2⟩ : ∃ y : Int32, y = G.1 mo 6 := ⟨_, rfl⟩
  have rz_2 : 0 ≤ z_2.toInt ∧ z_2.toInt ≤ 1600 := by rw [ez_2]; exact hT.rgi h_mo (by decide) 6
  refine t_calli (runV (As := []) (rest := []) ⟨hx, hb, hml, hown, hts⟩ (t_X10_land l D cy base τ G mo h_mo tha h_tha b_tha sa h_sa b_sa z_2 ez_2 ⟨by omega, by omega⟩ (by show INV G tha sa; first | assumption | omega | decide)) sV_L_27 hK (t_recv cf_11 hK hT h_mo) ⟨Nat.le_trans hZ hS.1, hT⟩ ⟨Nat.le_of_ble_eq_true rfl, Nat.le_of_ble_eq_true rfl⟩ rfl hl.1 rfl (Nat.le_of_ble_eq_true rfl) dL_law_340 ⟨by have q9 := hroom.1; omega, by have q9 := hroom.2; omega⟩) hS (fun r_3 G_3 H locs hF_3 hr_3 hT hS => ?_)
  have hF := hF.tr hF_3 rfl
  have hr_3_p0 := hr_3
  have hr_3_p0 : INV G_3 tha sa := hr_3_p0
  have hLI := hLI.frN hF_3 rfl (INM.new h_mo hF_3 rfl e_tha h_tha e_sa h_sa hr_3_p0)
  refine lv_pop hx hb dL_law_343 rfl ?_
  refine lv_goto (tgt := 2266) hx hb dL_law_344 (by decide) ?_
  exact W.widen (k := cells + 10) (n := slots + 200) (by omega) (by omega) (kk τ G_3 H locs ls hLI hT hS (lv_sub hl [0, 1, 2, 3] rfl))
set_option maxHeartbeats 4000000 in
set_option maxRecDepth 100000 in
theorem lc_3 {p : Program} {e : Env} {s : State} {m : MethodId} {below : List Frame} {meth : Method} {c : Code} {l : Launch} {b L : Nat} {xs : Nat → Int32} (D : va_G) (cy : Nat → ClassId) (adK adV : Nat → Nat) (base xo mo : Nat) (C0 : lw_At p s m meth c b L xs) (hK : KK D cy s) (hSS : SS adK adV base s s.heap) (hZ : base ≤ s.heap.size) (hZ2 : s.heap.size ≤ base) (hbA : ¬ RA base b) (hLs : L ≤ 3584) (τ : Nat → Nat) (G : Gh) (i : Int32) (hi0 : 0 ≤ i.toInt) (hi7 : i.toInt + 7 ≤ L) (hLI : LI τ G xo mo) {H : Heap} {locs : List Loc} (hT : TY D cy base τ G H) (hS : va_S (RA base) s.heap H locs) {ls : Array Slot} (hl : lv_has ls 4 [(3, .int i), (2, .ref mo), (1, .ref xo), (0, .ref b)]) {cells slots : Nat} (hroom : cells + 100 ≤ room_1.cells ∧ slots + 1000 ≤ room_1.slots) (kk : ∀ (τ1 : Nat → Nat) (G1 : Gh) (H1 : Heap) (locs1 : List Loc) (ls1 : Array Slot), LI τ1 G1 xo mo → TY D cy base τ1 G1 H1 → va_S (RA base) s.heap H1 locs1 → lv_has ls1 4 [(3, .int i), (2, .ref mo), (1, .ref xo), (0, .ref b)] → W p l e room_1 s m #[Value.ref b] below meth c H1 locs1 (cells + 10) (slots + 200) (lw_Z below #[Value.ref b] s) (F0 m 2266 ls1 [])) : W p l e room_1 s m #[Value.ref b] below meth c H locs cells slots (lw_Z below #[Value.ref b] s) (F0 m 347 ls []) := by
  obtain ⟨hx, hb, hr, hml, hown, hts, hX, hbl, hlocks, hgv⟩ := id C0
  have hown : s.vm.findClass RL = some m.cls := hown
  have hb : c.code = cL_law := hb
  have hts : ∀ w ∈ GW, w.before #[Value.ref b] s = true := fun w h => hts w (gw_tbl w h)
  have h_xo := hLI.1
  have h_mo := hLI.2.1
  have hF : Fr τ [1, 2, 3, 4, 6, 7, 11, 20, 25, 26, 27, 28, 29, 30, 31, 32, 33, 34, 35, 36, 37, 38, 39, 40, 51, 52, 53, 54, 55, 66, 67, 68, 69, 70, 71, 72, 73, 74, 75, 76, 77, 78, 79, 80, 81, 82, 83, 84, 85, 86, 87, 88, 89, 90, 91, 1001, 1002, 1004, 1023, 1024] G G := Fr.rf
  obtain ⟨w1, ew1⟩ : ∃ y : Int32, y = xs (i.toInt.toNat + 1) := ⟨_, rfl⟩
  refine lv_aload_n hx hb dL_law_347 rfl (lv_at hl 2 rfl) ?_
  refine lv_aload_n hx hb dL_law_348 rfl (lv_at hl 3 rfl) ?_
  refine lv_iload_n hx hb dL_law_349 rfl (lv_at hl 0 rfl) ?_
  refine lv_iconst (v := 1) hx hb dL_law_350 (by decide) ?_
  refine lv_iadd hx hb dL_law_351 ?_
  refine lv_topi (fun z_1 ez_1 => ?_)
  have tz_1 : z_1.toInt = i.toInt + 1 := add_t ez_1 (show -2147483648 ≤ i.toInt + 1 by omega) (show i.toInt + 1 < 2147483648 by omega)
  refine va_sld (i := z_1) hx hb hX hbl hbA hS (vp_in_iff.mpr ⟨by omega, by omega⟩) dL_law_352 ?_
  refine W.eq (g2 := F0 m 353 ls [.int w1, .ref xo]) (by rw [ew1, show z_1.toNatClampNeg = i.toInt.toNat + 1 from (show z_1.toInt.toNat = _ by omega)]) ?_
  refine pu_calli (runV (As := [.int w1]) (rest := []) ⟨hx, hb, hml, hown, hts⟩ (t_X9_fault l D cy base τ G xo h_xo w1) sV_L_28 hK (t_recv cf_1 hK hT h_xo) ⟨Nat.le_trans hZ hS.1, hT⟩ ⟨Nat.le_of_ble_eq_true rfl, Nat.le_of_ble_eq_true rfl⟩ rfl hl.1 rfl (Nat.le_of_ble_eq_true rfl) dL_law_353 ⟨by have q9 := hroom.1; omega, by have q9 := hroom.2; omega⟩) (fun r_2 hr_2 => ?_)
  refine lv_pop hx hb dL_law_356 rfl ?_
  refine lv_aload_n hx hb dL_law_357 rfl (lv_at hl 1 rfl) ?_
  refine lv_aload_n hx hb dL_law_358 rfl (lv_at hl 3 rfl) ?_
  refine lv_iload_n hx hb dL_law_359 rfl (lv_at hl 0 rfl) ?_
  refine lv_iconst (v := 1) hx hb dL_law_360 (by decide) ?_
  refine lv_iadd hx hb dL_law_361 ?_
  refine lv_topi (fun z_3 ez_3 => ?_)
  have w_4 : z_1 = z_3 := ez_1.trans ez_3.symm
  subst w_4
  refine va_sld (i := z_1) hx hb hX hbl hbA hS (vp_in_iff.mpr ⟨by omega, by omega⟩) dL_law_362 ?_
  refine W.eq (g2 := F0 m 363 ls [.int w1, .ref mo]) (by rw [ew1, show z_1.toNatClampNeg = i.toInt.toNat + 1 from (show z_1.toInt.toNat = _ by omega)]) ?_
  refine t_calli (runV (As := [.int w1]) (rest := []) ⟨hx, hb, hml, hown, hts⟩ (t_X10_fault l D cy base τ G mo h_mo w1) sV_L_31 hK (t_recv cf_11 hK hT h_mo) ⟨Nat.le_trans hZ hS.1, hT⟩ ⟨Nat.le_of_ble_eq_true rfl, Nat.le_of_ble_eq_true rfl⟩ rfl hl.1 rfl (Nat.le_of_ble_eq_true rfl) dL_law_363 ⟨by have q9 := hroom.1; omega, by have q9 := hroom.2; omega⟩) hS (fun r_5 G_5 H locs hF_5 hr_5 hT hS => ?_)
  have hF := hF.tr hF_5 rfl
  have hLI := hLI.fr EX.rf hF_5 rfl
  refine lv_pop hx hb dL_law_366 rfl ?_
  refine lv_goto (tgt := 2266) hx hb dL_law_367 (by decide) ?_
  exact W.widen (k := cells + 10) (n := slots + 200) (by omega) (by omega) (kk τ G_5 H locs ls hLI hT hS (lv_sub hl [0, 1, 2, 3] rfl))
set_option maxHeartbeats 4000000 in
set_option maxRecDepth 100000 in
theorem lc_4 {p : Program} {e : Env} {s : State} {m : MethodId} {below : List Frame} {meth : Method} {c : Code} {l : Launch} {b L : Nat} {xs : Nat → Int32} (D : va_G) (cy : Nat → ClassId) (adK adV : Nat → Nat) (base xo mo : Nat) (C0 : lw_At p s m meth c b L xs) (hK : KK D cy s) (hSS : SS adK adV base s s.heap) (hZ : base ≤ s.heap.size) (hZ2 : s.heap.size ≤ base) (hbA : ¬ RA base b) (hLs : L ≤ 3584) (τ : Nat → Nat) (G : Gh) (i : Int32) (hi0 : 0 ≤ i.toInt) (hi7 : i.toInt + 7 ≤ L) (hLI : LI τ G xo mo) {H : Heap} {locs : List Loc} (hT : TY D cy base τ G H) (hS : va_S (RA base) s.heap H locs) {ls : Array Slot} (hl : lv_has ls 4 [(3, .int i), (2, .ref mo), (1, .ref xo), (0, .ref b)]) {cells slots : Nat} (hroom : cells + 100 ≤ room_1.cells ∧ slots + 1000 ≤ room_1.slots) (kk : ∀ (τ1 : Nat → Nat) (G1 : Gh) (H1 : Heap) (locs1 : List Loc) (ls1 : Array Slot), LI τ1 G1 xo mo → TY D cy base τ1 G1 H1 → va_S (RA base) s.heap H1 locs1 → lv_has ls1 4 [(3, .int i), (2, .ref mo), (1, .ref xo), (0, .ref b)] → W p l e room_1 s m #[Value.ref b] below meth c H1 locs1 (cells + 10) (slots + 200) (lw_Z below #[Value.ref b] s) (F0 m 2266 ls1 [])) : W p l e room_1 s m #[Value.ref b] below meth c H locs cells slots (lw_Z below #[Value.ref b] s) (F0 m 370 ls []) := by
  obtain ⟨hx, hb, hr, hml, hown, hts, hX, hbl, hlocks, hgv⟩ := id C0
  have hown : s.vm.findClass RL = some m.cls := hown
  have hb : c.code = cL_law := hb
  have hts : ∀ w ∈ GW, w.before #[Value.ref b] s = true := fun w h => hts w (gw_tbl w h)
  have h_xo := hLI.1
  have h_mo := hLI.2.1
  have hF : Fr τ [1, 2, 3, 4, 6, 7, 11, 20, 25, 26, 27, 28, 29, 30, 31, 32, 33, 34, 35, 36, 37, 38, 39, 40, 51, 52, 53, 54, 55, 66, 67, 68, 69, 70, 71, 72, 73, 74, 75, 76, 77, 78, 79, 80, 81, 82, 83, 84, 85, 86, 87, 88, 89, 90, 91, 1001, 1002, 1004, 1023, 1024] G G := Fr.rf
  obtain ⟨w1, ew1⟩ : ∃ y : Int32, y = xs (i.toInt.toNat + 1) := ⟨_, rfl⟩
  obtain ⟨w2, ew2⟩ : ∃ y : Int32, y = xs (i.toInt.toNat + 2) := ⟨_, rfl⟩
  refine lv_aload_n hx hb dL_law_370 rfl (lv_at hl 2 rfl) ?_
  refine lv_aload_n hx hb dL_law_371 rfl (lv_at hl 3 rfl) ?_
  refine lv_iload_n hx hb dL_law_372 rfl (lv_at hl 0 rfl) ?_
  refine lv_iconst (v := 1) hx hb dL_law_373 (by decide) ?_
  refine lv_iadd hx hb dL_law_374 ?_
  refine lv_topi (fun z_1 ez_1 => ?_)
  have tz_1 : z_1.toInt = i.toInt + 1 := add_t ez_1 (show -2147483648 ≤ i.toInt + 1 by omega) (show i.toInt + 1 < 2147483648 by omega)
  refine va_sld (i := z_1) hx hb hX hbl hbA hS (vp_in_iff.mpr ⟨by omega, by omega⟩) dL_law_375 ?_
  refine W.eq (g2 := F0 m 376 ls [.int w1, .ref xo]) (by rw [ew1, show z_1.toNatClampNeg = i.toInt.toNat + 1 from (show z_1.toInt.toNat = _ by omega)]) ?_
  refine lv_aload_n hx hb dL_law_376 rfl (lv_at hl 3 rfl) ?_
  refine lv_iload_n hx hb dL_law_377 rfl (lv_at hl 0 rfl) ?_
  refine lv_iconst (v := 2) hx hb dL_law_378 (by decide) ?_
  refine lv_iadd hx hb dL_law_379 ?_
  refine lv_topi (fun z_2 ez_2 => ?_)
  have tz_2 : z_2.toInt = i.toInt + 2 := add_t ez_2 (show -2147483648 ≤ i.toInt + 2 by omega) (show i.toInt + 2 < 2147483648 by omega)
  refine va_sld (i := z_2) hx hb hX hbl hbA hS (vp_in_iff.mpr ⟨by omega, by omega⟩) dL_law_380 ?_
  refine W.eq (g2 := F0 m 381 ls [.int w2, .int w1, .ref xo]) (by rw [ew2, show z_2.toNatClampNeg = i.toInt.toNat + 2 from (show z_2.toInt.toNat = _ by omega)]) ?_
  refine t_calll (runV (As := [.int w1, .int w2]) (rest := []) ⟨hx, hb, hml, hown, hts⟩ (t_X9_shuts l D cy base τ G xo h_xo w1 w2) sV_L_32 hK (t_recv cf_1 hK hT h_xo) ⟨Nat.le_trans hZ hS.1, hT⟩ ⟨Nat.le_of_ble_eq_true rfl, Nat.le_of_ble_eq_true rfl⟩ rfl hl.1 rfl (Nat.le_of_ble_eq_true rfl) dL_law_381 ⟨by have q9 := hroom.1; omega, by have q9 := hroom.2; omega⟩) hS (fun r_3 G_3 H locs hF_3 hr_3 hT hS => ?_)
  have hF := hF.tr hF_3 rfl
  have hLI := hLI.fr EX.rf hF_3 rfl
  refine lv_pop2_2 hx hb dL_law_384 rfl ?_
  refine lv_aload_n hx hb dL_law_385 rfl (lv_at hl 1 rfl) ?_
  refine lv_aload_n hx hb dL_law_386 rfl (lv_at hl 3 rfl) ?_
  refine lv_iload_n hx hb dL_law_387 rfl (lv_at hl 0 rfl) ?_
  refine lv_iconst (v := 1) hx hb dL_law_388 (by decide) ?_
  refine lv_iadd hx hb dL_law_389 ?_
  refine lv_topi (fun z_4 ez_4 => ?_)
  have w_5 : z_1 = z_4 := ez_1.trans ez_4.symm
  subst w_5
  refine va_sld (i := z_1) hx hb hX hbl hbA hS (vp_in_iff.mpr ⟨by omega, by omega⟩) dL_law_390 ?_
  refine W.eq (g2 := F0 m 391 ls [.int w1, .ref mo]) (by rw [ew1, show z_1.toNatClampNeg = i.toInt.toNat + 1 from (show z_1.toInt.toNat = _ by omega)]) ?_
  refine lv_aload_n hx hb dL_law_391 rfl (lv_at hl 3 rfl) ?_
  refine lv_iload_n hx hb dL_law_392 rfl (lv_at hl 0 rfl) ?_
  refine lv_iconst (v := 2) hx hb dL_law_393 (by decide) ?_
  refine lv_iadd hx hb dL_law_394 ?_
  refine lv_topi (fun z_6 ez_6 => ?_)
  have w_7 : z_2 = z_6 := ez_2.trans ez_6.symm
  subst w_7
  refine va_sld (i := z_2) hx hb hX hbl hbA hS (vp_in_iff.mpr ⟨by omega, by omega⟩) dL_law_395 ?_
  refine W.eq (g2 := F0 m 396 ls [.int w2, .int w1, .ref mo]) (by rw [ew2, show z_2.toNatClampNeg = i.toInt.toNat + 2 from (show z_2.toInt.toNat = _ by omega)]) ?_
  refine t_calll (runV (As := [.int w1, .int w2]) (rest := []) ⟨hx, hb, hml, hown, hts⟩ (t_X10_shuts l D cy base τ G_3 mo h_mo w1 w2) sV_L_36 hK (t_recv cf_11 hK hT h_mo) ⟨Nat.le_trans hZ hS.1, hT⟩ ⟨Nat.le_of_ble_eq_true rfl, Nat.le_of_ble_eq_true rfl⟩ rfl hl.1 rfl (Nat.le_of_ble_eq_true rfl) dL_law_396 ⟨by have q9 := hroom.1; omega, by have q9 := hroom.2; omega⟩) hS (fun r_8 G_8 H locs hF_8 hr_8 hT hS => ?_)
  have hF := hF.tr hF_8 rfl
  have hLI := hLI.fr EX.rf hF_8 rfl
  refine lv_pop2_2 hx hb dL_law_399 rfl ?_
  refine lv_goto (tgt := 2266) hx hb dL_law_400 (by decide) ?_
  exact W.widen (k := cells + 10) (n := slots + 200) (by omega) (by omega) (kk τ G_8 H locs ls hLI hT hS (lv_sub hl [0, 1, 2, 3] rfl))
set_option maxHeartbeats 4000000 in
set_option maxRecDepth 100000 in
theorem lc_5 {p : Program} {e : Env} {s : State} {m : MethodId} {below : List Frame} {meth : Method} {c : Code} {l : Launch} {b L : Nat} {xs : Nat → Int32} (D : va_G) (cy : Nat → ClassId) (adK adV : Nat → Nat) (base xo mo : Nat) (C0 : lw_At p s m meth c b L xs) (hK : KK D cy s) (hSS : SS adK adV base s s.heap) (hZ : base ≤ s.heap.size) (hZ2 : s.heap.size ≤ base) (hbA : ¬ RA base b) (hLs : L ≤ 3584) (τ : Nat → Nat) (G : Gh) (i : Int32) (hi0 : 0 ≤ i.toInt) (hi7 : i.toInt + 7 ≤ L) (hLI : LI τ G xo mo) {H : Heap} {locs : List Loc} (hT : TY D cy base τ G H) (hS : va_S (RA base) s.heap H locs) {ls : Array Slot} (hl : lv_has ls 4 [(3, .int i), (2, .ref mo), (1, .ref xo), (0, .ref b)]) {cells slots : Nat} (hroom : cells + 100 ≤ room_1.cells ∧ slots + 1000 ≤ room_1.slots) (kk : ∀ (τ1 : Nat → Nat) (G1 : Gh) (H1 : Heap) (locs1 : List Loc) (ls1 : Array Slot), LI τ1 G1 xo mo → TY D cy base τ1 G1 H1 → va_S (RA base) s.heap H1 locs1 → lv_has ls1 4 [(3, .int i), (2, .ref mo), (1, .ref xo), (0, .ref b)] → W p l e room_1 s m #[Value.ref b] below meth c H1 locs1 (cells + 10) (slots + 200) (lw_Z below #[Value.ref b] s) (F0 m 2266 ls1 [])) : W p l e room_1 s m #[Value.ref b] below meth c H locs cells slots (lw_Z below #[Value.ref b] s) (F0 m 403 ls []) := by
  obtain ⟨hx, hb, hr, hml, hown, hts, hX, hbl, hlocks, hgv⟩ := id C0
  have hown : s.vm.findClass RL = some m.cls := hown
  have hb : c.code = cL_law := hb
  have hts : ∀ w ∈ GW, w.before #[Value.ref b] s = true := fun w h => hts w (gw_tbl w h)
  have h_xo := hLI.1
  have h_mo := hLI.2.1
  have hF : Fr τ [1, 2, 3, 4, 6, 7, 11, 20, 25, 26, 27, 28, 29, 30, 31, 32, 33, 34, 35, 36, 37, 38, 39, 40, 51, 52, 53, 54, 55, 66, 67, 68, 69, 70, 71, 72, 73, 74, 75, 76, 77, 78, 79, 80, 81, 82, 83, 84, 85, 86, 87, 88, 89, 90, 91, 1001, 1002, 1004, 1023, 1024] G G := Fr.rf
  obtain ⟨w1, ew1⟩ : ∃ y : Int32, y = xs (i.toInt.toNat + 1) := ⟨_, rfl⟩
  obtain ⟨w2, ew2⟩ : ∃ y : Int32, y = xs (i.toInt.toNat + 2) := ⟨_, rfl⟩
  refine lv_aload_n hx hb dL_law_403 rfl (lv_at hl 2 rfl) ?_
  refine lv_aload_n hx hb dL_law_404 rfl (lv_at hl 3 rfl) ?_
  refine lv_iload_n hx hb dL_law_405 rfl (lv_at hl 0 rfl) ?_
  refine lv_iconst (v := 1) hx hb dL_law_406 (by decide) ?_
  refine lv_iadd hx hb dL_law_407 ?_
  refine lv_topi (fun z_1 ez_1 => ?_)
  have tz_1 : z_1.toInt = i.toInt + 1 := add_t ez_1 (show -2147483648 ≤ i.toInt + 1 by omega) (show i.toInt + 1 < 2147483648 by omega)
  refine va_sld (i := z_1) hx hb hX hbl hbA hS (vp_in_iff.mpr ⟨by omega, by omega⟩) dL_law_408 ?_
  refine W.eq (g2 := F0 m 409 ls [.int w1, .ref xo]) (by rw [ew1, show z_1.toNatClampNeg = i.toInt.toNat + 1 from (show z_1.toInt.toNat = _ by omega)]) ?_
  refine lv_aload_n hx hb dL_law_409 rfl (lv_at hl 3 rfl) ?_
  refine lv_iload_n hx hb dL_law_410 rfl (lv_at hl 0 rfl) ?_
  refine lv_iconst (v := 2) hx hb dL_law_411 (by decide) ?_
  refine lv_iadd hx hb dL_law_412 ?_
  refine lv_topi (fun z_2 ez_2 => ?_)
  have tz_2 : z_2.toInt = i.toInt + 2 := add_t ez_2 (show -2147483648 ≤ i.toInt + 2 by omega) (show i.toInt + 2 < 2147483648 by omega)
  refine va_sld (i := z_2) hx hb hX hbl hbA hS (vp_in_iff.mpr ⟨by omega, by omega⟩) dL_law_413 ?_
  refine W.eq (g2 := F0 m 414 ls [.int w2, .int w1, .ref xo]) (by rw [ew2, show z_2.toNatClampNeg = i.toInt.toNat + 2 from (show z_2.toInt.toNat = _ by omega)]) ?_
  refine t_calll (runV (As := [.int w1, .int w2]) (rest := []) ⟨hx, hb, hml, hown, hts⟩ (t_X9_by l D cy base τ G xo h_xo w1 w2) sV_L_37 hK (t_recv cf_1 hK hT h_xo) ⟨Nat.le_trans hZ hS.1, hT⟩ ⟨Nat.le_of_ble_eq_true rfl, Nat.le_of_ble_eq_true rfl⟩ rfl hl.1 rfl (Nat.le_of_ble_eq_true rfl) dL_law_414 ⟨by have q9 := hroom.1; omega, by have q9 := hroom.2; omega⟩) hS (fun r_3 G_3 H locs hF_3 hr_3 hT hS => ?_)
  have hF := hF.tr hF_3 rfl
  have hLI := hLI.fr EX.rf hF_3 rfl
  refine lv_pop2_2 hx hb dL_law_417 rfl ?_
  refine lv_aload_n hx hb dL_law_418 rfl (lv_at hl 1 rfl) ?_
  refine lv_aload_n hx hb dL_law_419 rfl (lv_at hl 3 rfl) ?_
  refine lv_iload_n hx hb dL_law_420 rfl (lv_at hl 0 rfl) ?_
  refine lv_iconst (v := 1) hx hb dL_law_421 (by decide) ?_
  refine lv_iadd hx hb dL_law_422 ?_
  refine lv_topi (fun z_4 ez_4 => ?_)
  have w_5 : z_1 = z_4 := ez_1.trans ez_4.symm
  subst w_5
  refine va_sld (i := z_1) hx hb hX hbl hbA hS (vp_in_iff.mpr ⟨by omega, by omega⟩) dL_law_423 ?_
  refine W.eq (g2 := F0 m 424 ls [.int w1, .ref mo]) (by rw [ew1, show z_1.toNatClampNeg = i.toInt.toNat + 1 from (show z_1.toInt.toNat = _ by omega)]) ?_
  refine lv_aload_n hx hb dL_law_424 rfl (lv_at hl 3 rfl) ?_
  refine lv_iload_n hx hb dL_law_425 rfl (lv_at hl 0 rfl) ?_
  refine lv_iconst (v := 2) hx hb dL_law_426 (by decide) ?_
  refine lv_iadd hx hb dL_law_427 ?_
  refine lv_topi (fun z_6 ez_6 => ?_)
  have w_7 : z_2 = z_6 := ez_2.trans ez_6.symm
  subst w_7
  refine va_sld (i := z_2) hx hb hX hbl hbA hS (vp_in_iff.mpr ⟨by omega, by omega⟩) dL_law_428 ?_
  refine W.eq (g2 := F0 m 429 ls [.int w2, .int w1, .ref mo]) (by rw [ew2, show z_2.toNatClampNeg = i.toInt.toNat + 2 from (show z_2.toInt.toNat = _ by omega)]) ?_
  refine t_calll (runV (As := [.int w1, .int w2]) (rest := []) ⟨hx, hb, hml, hown, hts⟩ (t_X10_by l D cy base τ G_3 mo h_mo w1 w2) sV_L_40 hK (t_recv cf_11 hK hT h_mo) ⟨Nat.le_trans hZ hS.1, hT⟩ ⟨Nat.le_of_ble_eq_true rfl, Nat.le_of_ble_eq_true rfl⟩ rfl hl.1 rfl (Nat.le_of_ble_eq_true rfl) dL_law_429 ⟨by have q9 := hroom.1; omega, by have q9 := hroom.2; omega⟩) hS (fun r_8 G_8 H locs hF_8 hr_8 hT hS => ?_)
  have hF := hF.tr hF_8 rfl
  have hLI := hLI.fr EX.rf hF_8 rfl
  refine lv_pop2_2 hx hb dL_law_432 rfl ?_
  refine lv_goto (tgt := 2266) hx hb dL_law_433 (by decide) ?_
  exact W.widen (k := cells + 10) (n := slots + 200) (by omega) (by omega) (kk τ G_8 H locs ls hLI hT hS (lv_sub hl [0, 1, 2, 3] rfl))
set_option maxHeartbeats 4000000 in
set_option maxRecDepth 100000 in
theorem lc_6 {p : Program} {e : Env} {s : State} {m : MethodId} {below : List Frame} {meth : Method} {c : Code} {l : Launch} {b L : Nat} {xs : Nat → Int32} (D : va_G) (cy : Nat → ClassId) (adK adV : Nat → Nat) (base xo mo : Nat) (C0 : lw_At p s m meth c b L xs) (hK : KK D cy s) (hSS : SS adK adV base s s.heap) (hZ : base ≤ s.heap.size) (hZ2 : s.heap.size ≤ base) (hbA : ¬ RA base b) (hLs : L ≤ 3584) (τ : Nat → Nat) (G : Gh) (i : Int32) (hi0 : 0 ≤ i.toInt) (hi7 : i.toInt + 7 ≤ L) (hLI : LI τ G xo mo) {H : Heap} {locs : List Loc} (hT : TY D cy base τ G H) (hS : va_S (RA base) s.heap H locs) {ls : Array Slot} (hl : lv_has ls 4 [(3, .int i), (2, .ref mo), (1, .ref xo), (0, .ref b)]) {cells slots : Nat} (hroom : cells + 100 ≤ room_1.cells ∧ slots + 1000 ≤ room_1.slots) (kk : ∀ (τ1 : Nat → Nat) (G1 : Gh) (H1 : Heap) (locs1 : List Loc) (ls1 : Array Slot), LI τ1 G1 xo mo → TY D cy base τ1 G1 H1 → va_S (RA base) s.heap H1 locs1 → lv_has ls1 4 [(3, .int i), (2, .ref mo), (1, .ref xo), (0, .ref b)] → W p l e room_1 s m #[Value.ref b] below meth c H1 locs1 (cells + 10) (slots + 200) (lw_Z below #[Value.ref b] s) (F0 m 2266 ls1 [])) : W p l e room_1 s m #[Value.ref b] below meth c H locs cells slots (lw_Z below #[Value.ref b] s) (F0 m 436 ls []) := by
  obtain ⟨hx, hb, hr, hml, hown, hts, hX, hbl, hlocks, hgv⟩ := id C0
  have hown : s.vm.findClass RL = some m.cls := hown
  have hb : c.code = cL_law := hb
  have hts : ∀ w ∈ GW, w.before #[Value.ref b] s = true := fun w h => hts w (gw_tbl w h)
  have h_xo := hLI.1
  have h_mo := hLI.2.1
  have hF : Fr τ [1, 2, 3, 4, 6, 7, 11, 20, 25, 26, 27, 28, 29, 30, 31, 32, 33, 34, 35, 36, 37, 38, 39, 40, 51, 52, 53, 54, 55, 66, 67, 68, 69, 70, 71, 72, 73, 74, 75, 76, 77, 78, 79, 80, 81, 82, 83, 84, 85, 86, 87, 88, 89, 90, 91, 1001, 1002, 1004, 1023, 1024] G G := Fr.rf
  obtain ⟨w1, ew1⟩ : ∃ y : Int32, y = xs (i.toInt.toNat + 1) := ⟨_, rfl⟩
  obtain ⟨w2, ew2⟩ : ∃ y : Int32, y = xs (i.toInt.toNat + 2) := ⟨_, rfl⟩
  obtain ⟨w3, ew3⟩ : ∃ y : Int32, y = xs (i.toInt.toNat + 3) := ⟨_, rfl⟩
  obtain ⟨w4, ew4⟩ : ∃ y : Int32, y = xs (i.toInt.toNat + 4) := ⟨_, rfl⟩
  refine lv_aload_n hx hb dL_law_436 rfl (lv_at hl 2 rfl) ?_
  refine lv_aload_n hx hb dL_law_437 rfl (lv_at hl 3 rfl) ?_
  refine lv_iload_n hx hb dL_law_438 rfl (lv_at hl 0 rfl) ?_
  refine lv_iconst (v := 1) hx hb dL_law_439 (by decide) ?_
  refine lv_iadd hx hb dL_law_440 ?_
  refine lv_topi (fun z_1 ez_1 => ?_)
  have tz_1 : z_1.toInt = i.toInt + 1 := add_t ez_1 (show -2147483648 ≤ i.toInt + 1 by omega) (show i.toInt + 1 < 2147483648 by omega)
  refine va_sld (i := z_1) hx hb hX hbl hbA hS (vp_in_iff.mpr ⟨by omega, by omega⟩) dL_law_441 ?_
  refine W.eq (g2 := F0 m 442 ls [.int w1, .ref xo]) (by rw [ew1, show z_1.toNatClampNeg = i.toInt.toNat + 1 from (show z_1.toInt.toNat = _ by omega)]) ?_
  refine lv_aload_n hx hb dL_law_442 rfl (lv_at hl 3 rfl) ?_
  refine lv_iload_n hx hb dL_law_443 rfl (lv_at hl 0 rfl) ?_
  refine lv_iconst (v := 2) hx hb dL_law_444 (by decide) ?_
  refine lv_iadd hx hb dL_law_445 ?_
  refine lv_topi (fun z_2 ez_2 => ?_)
  have tz_2 : z_2.toInt = i.toInt + 2 := add_t ez_2 (show -2147483648 ≤ i.toInt + 2 by omega) (show i.toInt + 2 < 2147483648 by omega)
  refine va_sld (i := z_2) hx hb hX hbl hbA hS (vp_in_iff.mpr ⟨by omega, by omega⟩) dL_law_446 ?_
  refine W.eq (g2 := F0 m 447 ls [.int w2, .int w1, .ref xo]) (by rw [ew2, show z_2.toNatClampNeg = i.toInt.toNat + 2 from (show z_2.toInt.toNat = _ by omega)]) ?_
  refine lv_aload_n hx hb dL_law_447 rfl (lv_at hl 3 rfl) ?_
  refine lv_iload_n hx hb dL_law_448 rfl (lv_at hl 0 rfl) ?_
  refine lv_iconst (v := 3) hx hb dL_law_449 (by decide) ?_
  refine lv_iadd hx hb dL_law_450 ?_
  refine lv_topi (fun z_3 ez_3 => ?_)
  have tz_3 : z_3.toInt = i.toInt + 3 := add_t ez_3 (show -2147483648 ≤ i.toInt + 3 by omega) (show i.toInt + 3 < 2147483648 by omega)
  refine va_sld (i := z_3) hx hb hX hbl hbA hS (vp_in_iff.mpr ⟨by omega, by omega⟩) dL_law_451 ?_
  refine W.eq (g2 := F0 m 452 ls [.int w3, .int w2, .int w1, .ref xo]) (by rw [ew3, show z_3.toNatClampNeg = i.toInt.toNat + 3 from (show z_3.toInt.toNat = _ by omega)]) ?_
  refine lv_aload_n hx hb dL_law_452 rfl (lv_at hl 3 rfl) ?_
  refine lv_iload_n hx hb dL_law_453 rfl (lv_at hl 0 rfl) ?_
  refine lv_iconst (v := 4) hx hb dL_law_454 (by decide) ?_
  refine lv_iadd hx hb dL_law_455 ?_
  refine lv_topi (fun z_4 ez_4 => ?_)
  have tz_4 : z_4.toInt = i.toInt + 4 := add_t ez_4 (show -2147483648 ≤ i.toInt + 4 by omega) (show i.toInt + 4 < 2147483648 by omega)
  refine va_sld (i := z_4) hx hb hX hbl hbA hS (vp_in_iff.mpr ⟨by omega, by omega⟩) dL_law_456 ?_
  refine W.eq (g2 := F0 m 457 ls [.int w4, .int w3, .int w2, .int w1, .ref xo]) (by rw [ew4, show z_4.toNatClampNeg = i.toInt.toNat + 4 from (show z_4.toInt.toNat = _ by omega)]) ?_
  refine t_calll (runV (As := [.int w1, .int w2, .int w3, .int w4]) (rest := []) ⟨hx, hb, hml, hown, hts⟩ (t_X9_both l D cy base τ G xo h_xo w1 w2 w3 w4) sV_L_41 hK (t_recv cf_1 hK hT h_xo) ⟨Nat.le_trans hZ hS.1, hT⟩ ⟨Nat.le_of_ble_eq_true rfl, Nat.le_of_ble_eq_true rfl⟩ rfl hl.1 rfl (Nat.le_of_ble_eq_true rfl) dL_law_457 ⟨by have q9 := hroom.1; omega, by have q9 := hroom.2; omega⟩) hS (fun r_5 G_5 H locs hF_5 hr_5 hT hS => ?_)
  have hF := hF.tr hF_5 rfl
  have hLI := hLI.fr EX.rf hF_5 rfl
  refine lv_pop2_2 hx hb dL_law_460 rfl ?_
  refine lv_aload_n hx hb dL_law_461 rfl (lv_at hl 1 rfl) ?_
  refine lv_aload_n hx hb dL_law_462 rfl (lv_at hl 3 rfl) ?_
  refine lv_iload_n hx hb dL_law_463 rfl (lv_at hl 0 rfl) ?_
  refine lv_iconst (v := 1) hx hb dL_law_464 (by decide) ?_
  refine lv_iadd hx hb dL_law_465 ?_
  refine lv_topi (fun z_6 ez_6 => ?_)
  have w_7 : z_1 = z_6 := ez_1.trans ez_6.symm
  subst w_7
  refine va_sld (i := z_1) hx hb hX hbl hbA hS (vp_in_iff.mpr ⟨by omega, by omega⟩) dL_law_466 ?_
  refine W.eq (g2 := F0 m 467 ls [.int w1, .ref mo]) (by rw [ew1, show z_1.toNatClampNeg = i.toInt.toNat + 1 from (show z_1.toInt.toNat = _ by omega)]) ?_
  refine lv_aload_n hx hb dL_law_467 rfl (lv_at hl 3 rfl) ?_
  refine lv_iload_n hx hb dL_law_468 rfl (lv_at hl 0 rfl) ?_
  refine lv_iconst (v := 2) hx hb dL_law_469 (by decide) ?_
  refine lv_iadd hx hb dL_law_470 ?_
  refine lv_topi (fun z_8 ez_8 => ?_)
  have w_9 : z_2 = z_8 := ez_2.trans ez_8.symm
  subst w_9
  refine va_sld (i := z_2) hx hb hX hbl hbA hS (vp_in_iff.mpr ⟨by omega, by omega⟩) dL_law_471 ?_
  refine W.eq (g2 := F0 m 472 ls [.int w2, .int w1, .ref mo]) (by rw [ew2, show z_2.toNatClampNeg = i.toInt.toNat + 2 from (show z_2.toInt.toNat = _ by omega)]) ?_
  refine lv_aload_n hx hb dL_law_472 rfl (lv_at hl 3 rfl) ?_
  refine lv_iload_n hx hb dL_law_473 rfl (lv_at hl 0 rfl) ?_
  refine lv_iconst (v := 3) hx hb dL_law_474 (by decide) ?_
  refine lv_iadd hx hb dL_law_475 ?_
  refine lv_topi (fun z_10 ez_10 => ?_)
  have w_11 : z_3 = z_10 := ez_3.trans ez_10.symm
  subst w_11
  refine va_sld (i := z_3) hx hb hX hbl hbA hS (vp_in_iff.mpr ⟨by omega, by omega⟩) dL_law_476 ?_
  refine W.eq (g2 := F0 m 477 ls [.int w3, .int w2, .int w1, .ref mo]) (by rw [ew3, show z_3.toNatClampNeg = i.toInt.toNat + 3 from (show z_3.toInt.toNat = _ by omega)]) ?_
  refine lv_aload_n hx hb dL_law_477 rfl (lv_at hl 3 rfl) ?_
  refine lv_iload_n hx hb dL_law_478 rfl (lv_at hl 0 rfl) ?_
  refine lv_iconst (v := 4) hx hb dL_law_479 (by decide) ?_
  refine lv_iadd hx hb dL_law_480 ?_
  refine lv_topi (fun z_12 ez_12 => ?_)
  have w_13 : z_4 = z_12 := ez_4.trans ez_12.symm
  subst w_13
  refine va_sld (i := z_4) hx hb hX hbl hbA hS (vp_in_iff.mpr ⟨by omega, by omega⟩) dL_law_481 ?_
  refine W.eq (g2 := F0 m 482 ls [.int w4, .int w3, .int w2, .int w1, .ref mo]) (by rw [ew4, show z_4.toNatClampNeg = i.toInt.toNat + 4 from (show z_4.toInt.toNat = _ by omega)]) ?_
  refine t_calll (runV (As := [.int w1, .int w2, .int w3, .int w4]) (rest := []) ⟨hx, hb, hml, hown, hts⟩ (t_X10_both l D cy base τ G_5 mo h_mo w1 w2 w3 w4) sV_L_45 hK (t_recv cf_11 hK hT h_mo) ⟨Nat.le_trans hZ hS.1, hT⟩ ⟨Nat.le_of_ble_eq_true rfl, Nat.le_of_ble_eq_true rfl⟩ rfl hl.1 rfl (Nat.le_of_ble_eq_true rfl) dL_law_482 ⟨by have q9 := hroom.1; omega, by have q9 := hroom.2; omega⟩) hS (fun r_14 G_14 H locs hF_14 hr_14 hT hS => ?_)
  have hF := hF.tr hF_14 rfl
  have hLI := hLI.fr EX.rf hF_14 rfl
  refine lv_pop2_2 hx hb dL_law_485 rfl ?_
  refine lv_goto (tgt := 2266) hx hb dL_law_486 (by decide) ?_
  exact W.widen (k := cells + 10) (n := slots + 200) (by omega) (by omega) (kk τ G_14 H locs ls hLI hT hS (lv_sub hl [0, 1, 2, 3] rfl))
set_option maxHeartbeats 4000000 in
set_option maxRecDepth 100000 in
theorem lc_7 {p : Program} {e : Env} {s : State} {m : MethodId} {below : List Frame} {meth : Method} {c : Code} {l : Launch} {b L : Nat} {xs : Nat → Int32} (D : va_G) (cy : Nat → ClassId) (adK adV : Nat → Nat) (base xo mo : Nat) (C0 : lw_At p s m meth c b L xs) (hK : KK D cy s) (hSS : SS adK adV base s s.heap) (hZ : base ≤ s.heap.size) (hZ2 : s.heap.size ≤ base) (hbA : ¬ RA base b) (hLs : L ≤ 3584) (τ : Nat → Nat) (G : Gh) (i : Int32) (hi0 : 0 ≤ i.toInt) (hi7 : i.toInt + 7 ≤ L) (hLI : LI τ G xo mo) {H : Heap} {locs : List Loc} (hT : TY D cy base τ G H) (hS : va_S (RA base) s.heap H locs) {ls : Array Slot} (hl : lv_has ls 4 [(3, .int i), (2, .ref mo), (1, .ref xo), (0, .ref b)]) {cells slots : Nat} (hroom : cells + 100 ≤ room_1.cells ∧ slots + 1000 ≤ room_1.slots) (kk : ∀ (τ1 : Nat → Nat) (G1 : Gh) (H1 : Heap) (locs1 : List Loc) (ls1 : Array Slot), LI τ1 G1 xo mo → TY D cy base τ1 G1 H1 → va_S (RA base) s.heap H1 locs1 → lv_has ls1 4 [(3, .int i), (2, .ref mo), (1, .ref xo), (0, .ref b)] → W p l e room_1 s m #[Value.ref b] below meth c H1 locs1 (cells + 10) (slots + 200) (lw_Z below #[Value.ref b] s) (F0 m 2266 ls1 [])) : W p l e room_1 s m #[Value.ref b] below meth c H locs cells slots (lw_Z below #[Value.ref b] s) (F0 m 489 ls []) := by
  obtain ⟨hx, hb, hr, hml, hown, hts, hX, hbl, hlocks, hgv⟩ := id C0
  have hown : s.vm.findClass RL = some m.cls := hown
  have hb : c.code = cL_law := hb
  have hts : ∀ w ∈ GW, w.before #[Value.ref b] s = true := fun w h => hts w (gw_tbl w h)
  have h_xo := hLI.1
  have h_mo := hLI.2.1
  have hF : Fr τ [1, 2, 3, 4, 6, 7, 11, 20, 25, 26, 27, 28, 29, 30, 31, 32, 33, 34, 35, 36, 37, 38, 39, 40, 51, 52, 53, 54, 55, 66, 67, 68, 69, 70, 71, 72, 73, 74, 75, 76, 77, 78, 79, 80, 81, 82, 83, 84, 85, 86, 87, 88, 89, 90, 91, 1001, 1002, 1004, 1023, 1024] G G := Fr.rf
  obtain ⟨w1, ew1⟩ : ∃ y : Int32, y = xs (i.toInt.toNat + 1) := ⟨_, rfl⟩
  obtain ⟨w2, ew2⟩ : ∃ y : Int32, y = xs (i.toInt.toNat + 2) := ⟨_, rfl⟩
  refine lv_aload_n hx hb dL_law_489 rfl (lv_at hl 2 rfl) ?_
  refine lv_aload_n hx hb dL_law_490 rfl (lv_at hl 3 rfl) ?_
  refine lv_iload_n hx hb dL_law_491 rfl (lv_at hl 0 rfl) ?_
  refine lv_iconst (v := 1) hx hb dL_law_492 (by decide) ?_
  refine lv_iadd hx hb dL_law_493 ?_
  refine lv_topi (fun z_1 ez_1 => ?_)
  have tz_1 : z_1.toInt = i.toInt + 1 := add_t ez_1 (show -2147483648 ≤ i.toInt + 1 by omega) (show i.toInt + 1 < 2147483648 by omega)
  refine va_sld (i := z_1) hx hb hX hbl hbA hS (vp_in_iff.mpr ⟨by omega, by omega⟩) dL_law_494 ?_
  refine W.eq (g2 := F0 m 495 ls [.int w1, .ref xo]) (by rw [ew1, show z_1.toNatClampNeg = i.toInt.toNat + 1 from (show z_1.toInt.toNat = _ by omega)]) ?_
  refine lv_aload_n hx hb dL_law_495 rfl (lv_at hl 3 rfl) ?_
  refine lv_iload_n hx hb dL_law_496 rfl (lv_at hl 0 rfl) ?_
  refine lv_iconst (v := 2) hx hb dL_law_497 (by decide) ?_
  refine lv_iadd hx hb dL_law_498 ?_
  refine lv_topi (fun z_2 ez_2 => ?_)
  have tz_2 : z_2.toInt = i.toInt + 2 := add_t ez_2 (show -2147483648 ≤ i.toInt + 2 by omega) (show i.toInt + 2 < 2147483648 by omega)
  refine va_sld (i := z_2) hx hb hX hbl hbA hS (vp_in_iff.mpr ⟨by omega, by omega⟩) dL_law_499 ?_
  refine W.eq (g2 := F0 m 500 ls [.int w2, .int w1, .ref xo]) (by rw [ew2, show z_2.toNatClampNeg = i.toInt.toNat + 2 from (show z_2.toInt.toNat = _ by omega)]) ?_
  refine t_calll (runV (As := [.int w1, .int w2]) (rest := []) ⟨hx, hb, hml, hown, hts⟩ (t_X9_together l D cy base τ G xo h_xo w1 w2) sV_L_46 hK (t_recv cf_1 hK hT h_xo) ⟨Nat.le_trans hZ hS.1, hT⟩ ⟨Nat.le_of_ble_eq_true rfl, Nat.le_of_ble_eq_true rfl⟩ rfl hl.1 rfl (Nat.le_of_ble_eq_true rfl) dL_law_500 ⟨by have q9 := hroom.1; omega, by have q9 := hroom.2; omega⟩) hS (fun r_3 G_3 H locs hF_3 hr_3 hT hS => ?_)
  have hF := hF.tr hF_3 rfl
  have hLI := hLI.fr EX.rf hF_3 rfl
  refine lv_pop2_2 hx hb dL_law_503 rfl ?_
  refine lv_aload_n hx hb dL_law_504 rfl (lv_at hl 1 rfl) ?_
  refine lv_aload_n hx hb dL_law_505 rfl (lv_at hl 3 rfl) ?_
  refine lv_iload_n hx hb dL_law_506 rfl (lv_at hl 0 rfl) ?_
  refine lv_iconst (v := 1) hx hb dL_law_507 (by decide) ?_
  refine lv_iadd hx hb dL_law_508 ?_
  refine lv_topi (fun z_4 ez_4 => ?_)
  have w_5 : z_1 = z_4 := ez_1.trans ez_4.symm
  subst w_5
  refine va_sld (i := z_1) hx hb hX hbl hbA hS (vp_in_iff.mpr ⟨by omega, by omega⟩) dL_law_509 ?_
  refine W.eq (g2 := F0 m 510 ls [.int w1, .ref mo]) (by rw [ew1, show z_1.toNatClampNeg = i.toInt.toNat + 1 from (show z_1.toInt.toNat = _ by omega)]) ?_
  refine lv_aload_n hx hb dL_law_510 rfl (lv_at hl 3 rfl) ?_
  refine lv_iload_n hx hb dL_law_511 rfl (lv_at hl 0 rfl) ?_
  refine lv_iconst (v := 2) hx hb dL_law_512 (by decide) ?_
  refine lv_iadd hx hb dL_law_513 ?_
  refine lv_topi (fun z_6 ez_6 => ?_)
  have w_7 : z_2 = z_6 := ez_2.trans ez_6.symm
  subst w_7
  refine va_sld (i := z_2) hx hb hX hbl hbA hS (vp_in_iff.mpr ⟨by omega, by omega⟩) dL_law_514 ?_
  refine W.eq (g2 := F0 m 515 ls [.int w2, .int w1, .ref mo]) (by rw [ew2, show z_2.toNatClampNeg = i.toInt.toNat + 2 from (show z_2.toInt.toNat = _ by omega)]) ?_
  refine t_calll (runV (As := [.int w1, .int w2]) (rest := []) ⟨hx, hb, hml, hown, hts⟩ (t_X10_together l D cy base τ G_3 mo h_mo w1 w2) sV_L_49 hK (t_recv cf_11 hK hT h_mo) ⟨Nat.le_trans hZ hS.1, hT⟩ ⟨Nat.le_of_ble_eq_true rfl, Nat.le_of_ble_eq_true rfl⟩ rfl hl.1 rfl (Nat.le_of_ble_eq_true rfl) dL_law_515 ⟨by have q9 := hroom.1; omega, by have q9 := hroom.2; omega⟩) hS (fun r_8 G_8 H locs hF_8 hr_8 hT hS => ?_)
  have hF := hF.tr hF_8 rfl
  have hLI := hLI.fr EX.rf hF_8 rfl
  refine lv_pop2_2 hx hb dL_law_518 rfl ?_
  refine lv_goto (tgt := 2266) hx hb dL_law_519 (by decide) ?_
  exact W.widen (k := cells + 10) (n := slots + 200) (by omega) (by omega) (kk τ G_8 H locs ls hLI hT hS (lv_sub hl [0, 1, 2, 3] rfl))
set_option maxHeartbeats 4000000 in
set_option maxRecDepth 100000 in
theorem lc_8 {p : Program} {e : Env} {s : State} {m : MethodId} {below : List Frame} {meth : Method} {c : Code} {l : Launch} {b L : Nat} {xs : Nat → Int32} (D : va_G) (cy : Nat → ClassId) (adK adV : Nat → Nat) (base xo mo : Nat) (C0 : lw_At p s m meth c b L xs) (hK : KK D cy s) (hSS : SS adK adV base s s.heap) (hZ : base ≤ s.heap.size) (hZ2 : s.heap.size ≤ base) (hbA : ¬ RA base b) (hLs : L ≤ 3584) (τ : Nat → Nat) (G : Gh) (i : Int32) (hi0 : 0 ≤ i.toInt) (hi7 : i.toInt + 7 ≤ L) (hLI : LI τ G xo mo) {H : Heap} {locs : List Loc} (hT : TY D cy base τ G H) (hS : va_S (RA base) s.heap H locs) {ls : Array Slot} (hl : lv_has ls 4 [(3, .int i), (2, .ref mo), (1, .ref xo), (0, .ref b)]) {cells slots : Nat} (hroom : cells + 100 ≤ room_1.cells ∧ slots + 1000 ≤ room_1.slots) (kk : ∀ (τ1 : Nat → Nat) (G1 : Gh) (H1 : Heap) (locs1 : List Loc) (ls1 : Array Slot), LI τ1 G1 xo mo → TY D cy base τ1 G1 H1 → va_S (RA base) s.heap H1 locs1 → lv_has ls1 4 [(3, .int i), (2, .ref mo), (1, .ref xo), (0, .ref b)] → W p l e room_1 s m #[Value.ref b] below meth c H1 locs1 (cells + 10) (slots + 200) (lw_Z below #[Value.ref b] s) (F0 m 2266 ls1 [])) : W p l e room_1 s m #[Value.ref b] below meth c H locs cells slots (lw_Z below #[Value.ref b] s) (F0 m 522 ls []) := by
  obtain ⟨hx, hb, hr, hml, hown, hts, hX, hbl, hlocks, hgv⟩ := id C0
  have hown : s.vm.findClass RL = some m.cls := hown
  have hb : c.code = cL_law := hb
  have hts : ∀ w ∈ GW, w.before #[Value.ref b] s = true := fun w h => hts w (gw_tbl w h)
  have h_xo := hLI.1
  have h_mo := hLI.2.1
  have hF : Fr τ [1, 2, 3, 4, 6, 7, 11, 20, 25, 26, 27, 28, 29, 30, 31, 32, 33, 34, 35, 36, 37, 38, 39, 40, 51, 52, 53, 54, 55, 66, 67, 68, 69, 70, 71, 72, 73, 74, 75, 76, 77, 78, 79, 80, 81, 82, 83, 84, 85, 86, 87, 88, 89, 90, 91, 1001, 1002, 1004, 1023, 1024] G G := Fr.rf
  obtain ⟨w1, ew1⟩ : ∃ y : Int32, y = xs (i.toInt.toNat + 1) := ⟨_, rfl⟩
  obtain ⟨w2, ew2⟩ : ∃ y : Int32, y = xs (i.toInt.toNat + 2) := ⟨_, rfl⟩
  refine lv_aload_n hx hb dL_law_522 rfl (lv_at hl 2 rfl) ?_
  refine lv_aload_n hx hb dL_law_523 rfl (lv_at hl 3 rfl) ?_
  refine lv_iload_n hx hb dL_law_524 rfl (lv_at hl 0 rfl) ?_
  refine lv_iconst (v := 1) hx hb dL_law_525 (by decide) ?_
  refine lv_iadd hx hb dL_law_526 ?_
  refine lv_topi (fun z_1 ez_1 => ?_)
  have tz_1 : z_1.toInt = i.toInt + 1 := add_t ez_1 (show -2147483648 ≤ i.toInt + 1 by omega) (show i.toInt + 1 < 2147483648 by omega)
  refine va_sld (i := z_1) hx hb hX hbl hbA hS (vp_in_iff.mpr ⟨by omega, by omega⟩) dL_law_527 ?_
  refine W.eq (g2 := F0 m 528 ls [.int w1, .ref xo]) (by rw [ew1, show z_1.toNatClampNeg = i.toInt.toNat + 1 from (show z_1.toInt.toNat = _ by omega)]) ?_
  refine lv_aload_n hx hb dL_law_528 rfl (lv_at hl 3 rfl) ?_
  refine lv_iload_n hx hb dL_law_529 rfl (lv_at hl 0 rfl) ?_
  refine lv_iconst (v := 2) hx hb dL_law_530 (by decide) ?_
  refine lv_iadd hx hb dL_law_531 ?_
  refine lv_topi (fun z_2 ez_2 => ?_)
  have tz_2 : z_2.toInt = i.toInt + 2 := add_t ez_2 (show -2147483648 ≤ i.toInt + 2 by omega) (show i.toInt + 2 < 2147483648 by omega)
  refine va_sld (i := z_2) hx hb hX hbl hbA hS (vp_in_iff.mpr ⟨by omega, by omega⟩) dL_law_532 ?_
  refine W.eq (g2 := F0 m 533 ls [.int w2, .int w1, .ref xo]) (by rw [ew2, show z_2.toNatClampNeg = i.toInt.toNat + 2 from (show z_2.toInt.toNat = _ by omega)]) ?_
  refine t_calll (runV (As := [.int w1, .int w2]) (rest := []) ⟨hx, hb, hml, hown, hts⟩ (t_X9_set l D cy base τ G xo h_xo w1 w2) sV_L_50 hK (t_recv cf_1 hK hT h_xo) ⟨Nat.le_trans hZ hS.1, hT⟩ ⟨Nat.le_of_ble_eq_true rfl, Nat.le_of_ble_eq_true rfl⟩ rfl hl.1 rfl (Nat.le_of_ble_eq_true rfl) dL_law_533 ⟨by have q9 := hroom.1; omega, by have q9 := hroom.2; omega⟩) hS (fun r_3 G_3 H locs hF_3 hr_3 hT hS => ?_)
  have hF := hF.tr hF_3 rfl
  have hLI := hLI.fr EX.rf hF_3 rfl
  refine lv_pop2_2 hx hb dL_law_536 rfl ?_
  refine lv_aload_n hx hb dL_law_537 rfl (lv_at hl 1 rfl) ?_
  refine lv_aload_n hx hb dL_law_538 rfl (lv_at hl 3 rfl) ?_
  refine lv_iload_n hx hb dL_law_539 rfl (lv_at hl 0 rfl) ?_
  refine lv_iconst (v := 1) hx hb dL_law_540 (by decide) ?_
  refine lv_iadd hx hb dL_law_541 ?_
  refine lv_topi (fun z_4 ez_4 => ?_)
  have w_5 : z_1 = z_4 := ez_1.trans ez_4.symm
  subst w_5
  refine va_sld (i := z_1) hx hb hX hbl hbA hS (vp_in_iff.mpr ⟨by omega, by omega⟩) dL_law_542 ?_
  refine W.eq (g2 := F0 m 543 ls [.int w1, .ref mo]) (by rw [ew1, show z_1.toNatClampNeg = i.toInt.toNat + 1 from (show z_1.toInt.toNat = _ by omega)]) ?_
  refine lv_aload_n hx hb dL_law_543 rfl (lv_at hl 3 rfl) ?_
  refine lv_iload_n hx hb dL_law_544 rfl (lv_at hl 0 rfl) ?_
  refine lv_iconst (v := 2) hx hb dL_law_545 (by decide) ?_
  refine lv_iadd hx hb dL_law_546 ?_
  refine lv_topi (fun z_6 ez_6 => ?_)
  have w_7 : z_2 = z_6 := ez_2.trans ez_6.symm
  subst w_7
  refine va_sld (i := z_2) hx hb hX hbl hbA hS (vp_in_iff.mpr ⟨by omega, by omega⟩) dL_law_547 ?_
  refine W.eq (g2 := F0 m 548 ls [.int w2, .int w1, .ref mo]) (by rw [ew2, show z_2.toNatClampNeg = i.toInt.toNat + 2 from (show z_2.toInt.toNat = _ by omega)]) ?_
  refine t_calll (runV (As := [.int w1, .int w2]) (rest := []) ⟨hx, hb, hml, hown, hts⟩ (t_X10_set l D cy base τ G_3 mo h_mo w1 w2) sV_L_53 hK (t_recv cf_11 hK hT h_mo) ⟨Nat.le_trans hZ hS.1, hT⟩ ⟨Nat.le_of_ble_eq_true rfl, Nat.le_of_ble_eq_true rfl⟩ rfl hl.1 rfl (Nat.le_of_ble_eq_true rfl) dL_law_548 ⟨by have q9 := hroom.1; omega, by have q9 := hroom.2; omega⟩) hS (fun r_8 G_8 H locs hF_8 hr_8 hT hS => ?_)
  have hF := hF.tr hF_8 rfl
  have hLI := hLI.fr EX.rf hF_8 rfl
  refine lv_pop2_2 hx hb dL_law_551 rfl ?_
  refine lv_goto (tgt := 2266) hx hb dL_law_552 (by decide) ?_
  exact W.widen (k := cells + 10) (n := slots + 200) (by omega) (by omega) (kk τ G_8 H locs ls hLI hT hS (lv_sub hl [0, 1, 2, 3] rfl))
set_option maxHeartbeats 4000000 in
set_option maxRecDepth 100000 in
theorem lc_9 {p : Program} {e : Env} {s : State} {m : MethodId} {below : List Frame} {meth : Method} {c : Code} {l : Launch} {b L : Nat} {xs : Nat → Int32} (D : va_G) (cy : Nat → ClassId) (adK adV : Nat → Nat) (base xo mo : Nat) (C0 : lw_At p s m meth c b L xs) (hK : KK D cy s) (hSS : SS adK adV base s s.heap) (hZ : base ≤ s.heap.size) (hZ2 : s.heap.size ≤ base) (hbA : ¬ RA base b) (hLs : L ≤ 3584) (τ : Nat → Nat) (G : Gh) (i : Int32) (hi0 : 0 ≤ i.toInt) (hi7 : i.toInt + 7 ≤ L) (hLI : LI τ G xo mo) {H : Heap} {locs : List Loc} (hT : TY D cy base τ G H) (hS : va_S (RA base) s.heap H locs) {ls : Array Slot} (hl : lv_has ls 4 [(3, .int i), (2, .ref mo), (1, .ref xo), (0, .ref b)]) {cells slots : Nat} (hroom : cells + 100 ≤ room_1.cells ∧ slots + 1000 ≤ room_1.slots) (kk : ∀ (τ1 : Nat → Nat) (G1 : Gh) (H1 : Heap) (locs1 : List Loc) (ls1 : Array Slot), LI τ1 G1 xo mo → TY D cy base τ1 G1 H1 → va_S (RA base) s.heap H1 locs1 → lv_has ls1 4 [(3, .int i), (2, .ref mo), (1, .ref xo), (0, .ref b)] → W p l e room_1 s m #[Value.ref b] below meth c H1 locs1 (cells + 10) (slots + 200) (lw_Z below #[Value.ref b] s) (F0 m 2266 ls1 [])) : W p l e room_1 s m #[Value.ref b] below meth c H locs cells slots (lw_Z below #[Value.ref b] s) (F0 m 555 ls []) := by
  obtain ⟨hx, hb, hr, hml, hown, hts, hX, hbl, hlocks, hgv⟩ := id C0
  have hown : s.vm.findClass RL = some m.cls := hown
  have hb : c.code = cL_law := hb
  have hts : ∀ w ∈ GW, w.before #[Value.ref b] s = true := fun w h => hts w (gw_tbl w h)
  have h_xo := hLI.1
  have h_mo := hLI.2.1
  have hF : Fr τ [1, 2, 3, 4, 6, 7, 11, 20, 25, 26, 27, 28, 29, 30, 31, 32, 33, 34, 35, 36, 37, 38, 39, 40, 51, 52, 53, 54, 55, 66, 67, 68, 69, 70, 71, 72, 73, 74, 75, 76, 77, 78, 79, 80, 81, 82, 83, 84, 85, 86, 87, 88, 89, 90, 91, 1001, 1002, 1004, 1023, 1024] G G := Fr.rf
  obtain ⟨w1, ew1⟩ : ∃ y : Int32, y = xs (i.toInt.toNat + 1) := ⟨_, rfl⟩
  obtain ⟨w2, ew2⟩ : ∃ y : Int32, y = xs (i.toInt.toNat + 2) := ⟨_, rfl⟩
  refine lv_aload_n hx hb dL_law_555 rfl (lv_at hl 2 rfl) ?_
  refine lv_aload_n hx hb dL_law_556 rfl (lv_at hl 3 rfl) ?_
  refine lv_iload_n hx hb dL_law_557 rfl (lv_at hl 0 rfl) ?_
  refine lv_iconst (v := 1) hx hb dL_law_558 (by decide) ?_
  refine lv_iadd hx hb dL_law_559 ?_
  refine lv_topi (fun z_1 ez_1 => ?_)
  have tz_1 : z_1.toInt = i.toInt + 1 := add_t ez_1 (show -2147483648 ≤ i.toInt + 1 by omega) (show i.toInt + 1 < 2147483648 by omega)
  refine va_sld (i := z_1) hx hb hX hbl hbA hS (vp_in_iff.mpr ⟨by omega, by omega⟩) dL_law_560 ?_
  refine W.eq (g2 := F0 m 561 ls [.int w1, .ref xo]) (by rw [ew1, show z_1.toNatClampNeg = i.toInt.toNat + 1 from (show z_1.toInt.toNat = _ by omega)]) ?_
  refine lv_aload_n hx hb dL_law_561 rfl (lv_at hl 3 rfl) ?_
  refine lv_iload_n hx hb dL_law_562 rfl (lv_at hl 0 rfl) ?_
  refine lv_iconst (v := 2) hx hb dL_law_563 (by decide) ?_
  refine lv_iadd hx hb dL_law_564 ?_
  refine lv_topi (fun z_2 ez_2 => ?_)
  have tz_2 : z_2.toInt = i.toInt + 2 := add_t ez_2 (show -2147483648 ≤ i.toInt + 2 by omega) (show i.toInt + 2 < 2147483648 by omega)
  refine va_sld (i := z_2) hx hb hX hbl hbA hS (vp_in_iff.mpr ⟨by omega, by omega⟩) dL_law_565 ?_
  refine W.eq (g2 := F0 m 566 ls [.int w2, .int w1, .ref xo]) (by rw [ew2, show z_2.toNatClampNeg = i.toInt.toNat + 2 from (show z_2.toInt.toNat = _ by omega)]) ?_
  refine t_calli (runV (As := [.int w1, .int w2]) (rest := []) ⟨hx, hb, hml, hown, hts⟩ (t_X9_when l D cy base τ G xo h_xo w1 w2) sV_L_54 hK (t_recv cf_1 hK hT h_xo) ⟨Nat.le_trans hZ hS.1, hT⟩ ⟨Nat.le_of_ble_eq_true rfl, Nat.le_of_ble_eq_true rfl⟩ rfl hl.1 rfl (Nat.le_of_ble_eq_true rfl) dL_law_566 ⟨by have q9 := hroom.1; omega, by have q9 := hroom.2; omega⟩) hS (fun r_3 G_3 H locs hF_3 hr_3 hT hS => ?_)
  have hF := hF.tr hF_3 rfl
  have hLI := hLI.fr EX.rf hF_3 rfl
  refine lv_pop hx hb dL_law_569 rfl ?_
  refine lv_aload_n hx hb dL_law_570 rfl (lv_at hl 1 rfl) ?_
  refine lv_aload_n hx hb dL_law_571 rfl (lv_at hl 3 rfl) ?_
  refine lv_iload_n hx hb dL_law_572 rfl (lv_at hl 0 rfl) ?_
  refine lv_iconst (v := 1) hx hb dL_law_573 (by decide) ?_
  refine lv_iadd hx hb dL_law_574 ?_
  refine lv_topi (fun z_4 ez_4 => ?_)
  have w_5 : z_1 = z_4 := ez_1.trans ez_4.symm
  subst w_5
  refine va_sld (i := z_1) hx hb hX hbl hbA hS (vp_in_iff.mpr ⟨by omega, by omega⟩) dL_law_575 ?_
  refine W.eq (g2 := F0 m 576 ls [.int w1, .ref mo]) (by rw [ew1, show z_1.toNatClampNeg = i.toInt.toNat + 1 from (show z_1.toInt.toNat = _ by omega)]) ?_
  refine lv_aload_n hx hb dL_law_576 rfl (lv_at hl 3 rfl) ?_
  refine lv_iload_n hx hb dL_law_577 rfl (lv_at hl 0 rfl) ?_
  refine lv_iconst (v := 2) hx hb dL_law_578 (by decide) ?_
  refine lv_iadd hx hb dL_law_579 ?_
  refine lv_topi (fun z_6 ez_6 => ?_)
  have w_7 : z_2 = z_6 := ez_2.trans ez_6.symm
  subst w_7
  refine va_sld (i := z_2) hx hb hX hbl hbA hS (vp_in_iff.mpr ⟨by omega, by omega⟩) dL_law_580 ?_
  refine W.eq (g2 := F0 m 581 ls [.int w2, .int w1, .ref mo]) (by rw [ew2, show z_2.toNatClampNeg = i.toInt.toNat + 2 from (show z_2.toInt.toNat = _ by omega)]) ?_
  refine t_calli (runV (As := [.int w1, .int w2]) (rest := []) ⟨hx, hb, hml, hown, hts⟩ (t_X10_when l D cy base τ G_3 mo h_mo w1 w2) sV_L_58 hK (t_recv cf_11 hK hT h_mo) ⟨Nat.le_trans hZ hS.1, hT⟩ ⟨Nat.le_of_ble_eq_true rfl, Nat.le_of_ble_eq_true rfl⟩ rfl hl.1 rfl (Nat.le_of_ble_eq_true rfl) dL_law_581 ⟨by have q9 := hroom.1; omega, by have q9 := hroom.2; omega⟩) hS (fun r_8 G_8 H locs hF_8 hr_8 hT hS => ?_)
  have hF := hF.tr hF_8 rfl
  have hLI := hLI.fr EX.rf hF_8 rfl
  refine lv_pop hx hb dL_law_584 rfl ?_
  refine lv_goto (tgt := 2266) hx hb dL_law_585 (by decide) ?_
  exact W.widen (k := cells + 10) (n := slots + 200) (by omega) (by omega) (kk τ G_8 H locs ls hLI hT hS (lv_sub hl [0, 1, 2, 3] rfl))
