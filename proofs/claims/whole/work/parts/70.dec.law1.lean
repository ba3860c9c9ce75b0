/-! Decoded instructions of the law. -/
theorem d_Law_285 : decode code 285 = .ok (.iload_n 3, 1) := by decide +kernel
theorem d_Law_286 : decode code 286 = .ok (.iconst 1, 1) := by decide +kernel
theorem d_Law_287 : decode code 287 = .ok (.iadd, 1) := by decide +kernel
theorem d_Law_288 : decode code 288 = .ok (.iaload, 1) := by decide +kernel
theorem d_Law_289 : decode code 289 = .ok (.aload_n 0, 1) := by decide +kernel
theorem d_Law_290 : decode code 290 = .ok (.iload_n 3, 1) := by decide +kernel
theorem d_Law_291 : decode code 291 = .ok (.iconst 2, 1) := by decide +kernel
theorem d_Law_292 : decode code 292 = .ok (.iadd, 1) := by decide +kernel
theorem d_Law_293 : decode code 293 = .ok (.iaload, 1) := by decide +kernel
theorem d_Law_294 : decode code 294 = .ok (.aload_n 0, 1) := by decide +kernel
theorem d_Law_295 : decode code 295 = .ok (.iload_n 3, 1) := by decide +kernel
theorem d_Law_296 : decode code 296 = .ok (.iconst 3, 1) := by decide +kernel
theorem d_Law_297 : decode code 297 = .ok (.iadd, 1) := by decide +kernel
theorem d_Law_298 : decode code 298 = .ok (.iaload, 1) := by decide +kernel
theorem d_Law_299 : decode code 299 = .ok (.ifCond .eq 7, 3) := by decide +kernel
theorem d_Law_302 : decode code 302 = .ok (.iconst 1, 1) := by decide +kernel
theorem d_Law_303 : decode code 303 = .ok (.goto 4, 3) := by decide +kernel
theorem d_Law_306 : decode code 306 = .ok (.iconst 0, 1) := by decide +kernel
theorem d_Law_307 : decode code 307 = .ok (.invokevirtual 36, 3) := by decide +kernel
theorem d_Law_310 : decode code 310 = .ok (.aload_n 2, 1) := by decide +kernel
theorem d_Law_311 : decode code 311 = .ok (.aload_n 0, 1) := by decide +kernel
theorem d_Law_312 : decode code 312 = .ok (.iload_n 3, 1) := by decide +kernel
theorem d_Law_313 : decode code 313 = .ok (.iconst 1, 1) := by decide +kernel
theorem d_Law_314 : decode code 314 = .ok (.iadd, 1) := by decide +kernel
theorem d_Law_315 : decode code 315 = .ok (.iaload, 1) := by decide +kernel
theorem d_Law_316 : decode code 316 = .ok (.aload_n 0, 1) := by decide +kernel
theorem d_Law_317 : decode code 317 = .ok (.iload_n 3, 1) := by decide +kernel
theorem d_Law_318 : decode code 318 = .ok (.iconst 2, 1) := by decide +kernel
theorem d_Law_319 : decode code 319 = .ok (.iadd, 1) := by decide +kernel
theorem d_Law_320 : decode code 320 = .ok (.iaload, 1) := by decide +kernel
theorem d_Law_321 : decode code 321 = .ok (.aload_n 0, 1) := by decide +kernel
theorem d_Law_322 : decode code 322 = .ok (.iload_n 3, 1) := by decide +kernel
theorem d_Law_323 : decode code 323 = .ok (.iconst 3, 1) := by decide +kernel
theorem d_Law_324 : decode code 324 = .ok (.iadd, 1) := by decide +kernel
theorem d_Law_325 : decode code 325 = .ok (.iaload, 1) := by decide +kernel
theorem d_Law_326 : decode code 326 = .ok (.ifCond .eq 7, 3) := by decide +kernel
theorem d_Law_329 : decode code 329 = .ok (.iconst 1, 1) := by decide +kernel
theorem d_Law_330 : decode code 330 = .ok (.goto 4, 3) := by decide +kernel
theorem d_Law_333 : decode code 333 = .ok (.iconst 0, 1) := by decide +kernel
theorem d_Law_334 : decode code 334 = .ok (.invokevirtual 40, 3) := by decide +kernel
theorem d_Law_337 : decode code 337 = .ok (.if_icmp .eq 338, 3) := by decide +kernel
theorem d_Law_340 : decode code 340 = .ok (.iconst 0, 1) := by decide +kernel
theorem d_Law_341 : decode code 341 = .ok (.ireturn, 1) := by decide +kernel
theorem d_Law_342 : decode code 342 = .ok (.aload_n 1, 1) := by decide +kernel
theorem d_Law_343 : decode code 343 = .ok (.aload_n 0, 1) := by decide +kernel
theorem d_Law_344 : decode code 344 = .ok (.iload_n 3, 1) := by decide +kernel
theorem d_Law_345 : decode code 345 = .ok (.iconst 1, 1) := by decide +kernel
theorem d_Law_346 : decode code 346 = .ok (.iadd, 1) := by decide +kernel
theorem d_Law_347 : decode code 347 = .ok (.iaload, 1) := by decide +kernel
theorem d_Law_348 : decode code 348 = .ok (.invokevirtual 41, 3) := by decide +kernel
theorem d_Law_351 : decode code 351 = .ok (.aload_n 2, 1) := by decide +kernel
theorem d_Law_352 : decode code 352 = .ok (.aload_n 0, 1) := by decide +kernel
theorem d_Law_353 : decode code 353 = .ok (.iload_n 3, 1) := by decide +kernel
theorem d_Law_354 : decode code 354 = .ok (.iconst 1, 1) := by decide +kernel
theorem d_Law_355 : decode code 355 = .ok (.iadd, 1) := by decide +kernel
theorem d_Law_356 : decode code 356 = .ok (.iaload, 1) := by decide +kernel
theorem d_Law_357 : decode code 357 = .ok (.invokevirtual 44, 3) := by decide +kernel
theorem d_Law_360 : decode code 360 = .ok (.if_icmp .eq 315, 3) := by decide +kernel
theorem d_Law_363 : decode code 363 = .ok (.iconst 0, 1) := by decide +kernel
theorem d_Law_364 : decode code 364 = .ok (.ireturn, 1) := by decide +kernel
theorem d_Law_365 : decode code 365 = .ok (.aload_n 1, 1) := by decide +kernel
theorem d_Law_366 : decode code 366 = .ok (.aload_n 0, 1) := by decide +kernel
theorem d_Law_367 : decode code 367 = .ok (.iload_n 3, 1) := by decide +kernel
theorem d_Law_368 : decode code 368 = .ok (.iconst 1, 1) := by decide +kernel
theorem d_Law_369 : decode code 369 = .ok (.iadd, 1) := by decide +kernel
theorem d_Law_370 : decode code 370 = .ok (.iaload, 1) := by decide +kernel
theorem d_Law_371 : decode code 371 = .ok (.aload_n 0, 1) := by decide +kernel
theorem d_Law_372 : decode code 372 = .ok (.iload_n 3, 1) := by decide +kernel
theorem d_Law_373 : decode code 373 = .ok (.iconst 2, 1) := by decide +kernel
theorem d_Law_374 : decode code 374 = .ok (.iadd, 1) := by decide +kernel
theorem d_Law_375 : decode code 375 = .ok (.iaload, 1) := by decide +kernel
theorem d_Law_376 : decode code 376 = .ok (.aload_n 0, 1) := by decide +kernel
theorem d_Law_377 : decode code 377 = .ok (.iload_n 3, 1) := by decide +kernel
theorem d_Law_378 : decode code 378 = .ok (.iconst 3, 1) := by decide +kernel
theorem d_Law_379 : decode code 379 = .ok (.iadd, 1) := by decide +kernel
theorem d_Law_380 : decode code 380 = .ok (.iaload, 1) := by decide +kernel
theorem d_Law_381 : decode code 381 = .ok (.aload_n 0, 1) := by decide +kernel
theorem d_Law_382 : decode code 382 = .ok (.iload_n 3, 1) := by decide +kernel
theorem d_Law_383 : decode code 383 = .ok (.iconst 4, 1) := by decide +kernel
theorem d_Law_384 : decode code 384 = .ok (.iadd, 1) := by decide +kernel
theorem d_Law_385 : decode code 385 = .ok (.iaload, 1) := by decide +kernel
theorem d_Law_386 : decode code 386 = .ok (.invokevirtual 45, 3) := by decide +kernel
theorem d_Law_389 : decode code 389 = .ok (.aload_n 2, 1) := by decide +kernel
theorem d_Law_390 : decode code 390 = .ok (.aload_n 0, 1) := by decide +kernel
theorem d_Law_391 : decode code 391 = .ok (.iload_n 3, 1) := by decide +kernel
theorem d_Law_392 : decode code 392 = .ok (.iconst 1, 1) := by decide +kernel
theorem d_Law_393 : decode code 393 = .ok (.iadd, 1) := by decide +kernel
theorem d_Law_394 : decode code 394 = .ok (.iaload, 1) := by decide +kernel
theorem d_Law_395 : decode code 395 = .ok (.aload_n 0, 1) := by decide +kernel
theorem d_Law_396 : decode code 396 = .ok (.iload_n 3, 1) := by decide +kernel
theorem d_Law_397 : decode code 397 = .ok (.iconst 2, 1) := by decide +kernel
theorem d_Law_398 : decode code 398 = .ok (.iadd, 1) := by decide +kernel
theorem d_Law_399 : decode code 399 = .ok (.iaload, 1) := by decide +kernel
theorem d_Law_400 : decode code 400 = .ok (.aload_n 0, 1) := by decide +kernel
theorem d_Law_401 : decode code 401 = .ok (.iload_n 3, 1) := by decide +kernel
theorem d_Law_402 : decode code 402 = .ok (.iconst 3, 1) := by decide +kernel
theorem d_Law_403 : decode code 403 = .ok (.iadd, 1) := by decide +kernel
theorem d_Law_404 : decode code 404 = .ok (.iaload, 1) := by decide +kernel
theorem d_Law_405 : decode code 405 = .ok (.aload_n 0, 1) := by decide +kernel
theorem d_Law_406 : decode code 406 = .ok (.iload_n 3, 1) := by decide +kernel
theorem d_Law_407 : decode code 407 = .ok (.iconst 4, 1) := by decide +kernel
theorem d_Law_408 : decode code 408 = .ok (.iadd, 1) := by decide +kernel
theorem d_Law_409 : decode code 409 = .ok (.iaload, 1) := by decide +kernel
theorem d_Law_410 : decode code 410 = .ok (.invokevirtual 49, 3) := by decide +kernel
theorem d_Law_413 : decode code 413 = .ok (.if_icmp .eq 262, 3) := by decide +kernel
theorem d_Law_416 : decode code 416 = .ok (.iconst 0, 1) := by decide +kernel
theorem d_Law_417 : decode code 417 = .ok (.ireturn, 1) := by decide +kernel
theorem d_Law_418 : decode code 418 = .ok (.aload_n 1, 1) := by decide +kernel
theorem d_Law_419 : decode code 419 = .ok (.invokevirtual 50, 3) := by decide +kernel
theorem d_Law_422 : decode code 422 = .ok (.aload_n 2, 1) := by decide +kernel
theorem d_Law_423 : decode code 423 = .ok (.invokevirtual 54, 3) := by decide +kernel
theorem d_Law_426 : decode code 426 = .ok (.if_icmp .eq 249, 3) := by decide +kernel
theorem d_Law_429 : decode code 429 = .ok (.iconst 0, 1) := by decide +kernel
theorem d_Law_430 : decode code 430 = .ok (.ireturn, 1) := by decide +kernel
theorem d_Law_431 : decode code 431 = .ok (.aload_n 1, 1) := by decide +kernel
theorem d_Law_432 : decode code 432 = .ok (.aload_n 0, 1) := by decide +kernel
theorem d_Law_433 : decode code 433 = .ok (.iload_n 3, 1) := by decide +kernel
theorem d_Law_434 : decode code 434 = .ok (.iconst 1, 1) := by decide +kernel
theorem d_Law_435 : decode code 435 = .ok (.iadd, 1) := by decide +kernel
theorem d_Law_436 : decode code 436 = .ok (.iaload, 1) := by decide +kernel
theorem d_Law_437 : decode code 437 = .ok (.invokevirtual 55, 3) := by decide +kernel
theorem d_Law_440 : decode code 440 = .ok (.aload_n 2, 1) := by decide +kernel
theorem d_Law_441 : decode code 441 = .ok (.aload_n 0, 1) := by decide +kernel
theorem d_Law_442 : decode code 442 = .ok (.iload_n 3, 1) := by decide +kernel
theorem d_Law_443 : decode code 443 = .ok (.iconst 1, 1) := by decide +kernel
theorem d_Law_444 : decode code 444 = .ok (.iadd, 1) := by decide +kernel
theorem d_Law_445 : decode code 445 = .ok (.iaload, 1) := by decide +kernel
theorem d_Law_446 : decode code 446 = .ok (.invokevirtual 59, 3) := by decide +kernel
theorem d_Law_449 : decode code 449 = .ok (.if_icmp .eq 226, 3) := by decide +kernel
theorem d_Law_452 : decode code 452 = .ok (.iconst 0, 1) := by decide +kernel
theorem d_Law_453 : decode code 453 = .ok (.ireturn, 1) := by decide +kernel
theorem d_Law_454 : decode code 454 = .ok (.aload_n 1, 1) := by decide +kernel
theorem d_Law_455 : decode code 455 = .ok (.invokevirtual 60, 3) := by decide +kernel
theorem d_Law_458 : decode code 458 = .ok (.aload_n 2, 1) := by decide +kernel
theorem d_Law_459 : decode code 459 = .ok (.invokevirtual 64, 3) := by decide +kernel
theorem d_Law_462 : decode code 462 = .ok (.if_icmp .eq 213, 3) := by decide +kernel
theorem d_Law_465 : decode code 465 = .ok (.iconst 0, 1) := by decide +kernel
theorem d_Law_466 : decode code 466 = .ok (.ireturn, 1) := by decide +kernel
theorem d_Law_467 : decode code 467 = .ok (.aload_n 1, 1) := by decide +kernel
theorem d_Law_468 : decode code 468 = .ok (.aload_n 0, 1) := by decide +kernel
theorem d_Law_469 : decode code 469 = .ok (.iload_n 3, 1) := by decide +kernel
theorem d_Law_470 : decode code 470 = .ok (.iconst 1, 1) := by decide +kernel
theorem d_Law_471 : decode code 471 = .ok (.iadd, 1) := by decide +kernel
theorem d_Law_472 : decode code 472 = .ok (.iaload, 1) := by decide +kernel
theorem d_Law_473 : decode code 473 = .ok (.invokevirtual 65, 3) := by decide +kernel
theorem d_Law_476 : decode code 476 = .ok (.aload_n 2, 1) := by decide +kernel
theorem d_Law_477 : decode code 477 = .ok (.aload_n 0, 1) := by decide +kernel
theorem d_Law_478 : decode code 478 = .ok (.iload_n 3, 1) := by decide +kernel
theorem d_Law_479 : decode code 479 = .ok (.iconst 1, 1) := by decide +kernel
