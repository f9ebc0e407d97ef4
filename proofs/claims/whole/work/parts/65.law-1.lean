theorem dL_law_273 : decode code 273 = .ok (.aload_n 0, 1) := by decide +kernel
theorem dL_law_274 : decode code 274 = .ok (.iload 4, 2) := by decide +kernel
theorem dL_law_276 : decode code 276 = .ok (.iconst 3, 1) := by decide +kernel
theorem dL_law_277 : decode code 277 = .ok (.iadd, 1) := by decide +kernel
theorem dL_law_278 : decode code 278 = .ok (.iaload, 1) := by decide +kernel
theorem dL_law_279 : decode code 279 = .ok (.invokestatic 103, 3) := by decide +kernel
theorem dL_law_282 : decode code 282 = .ok (.istore 5, 2) := by decide +kernel
theorem dL_law_284 : decode code 284 = .ok (.aload_n 2, 1) := by decide +kernel
theorem dL_law_285 : decode code 285 = .ok (.aload_n 0, 1) := by decide +kernel
theorem dL_law_286 : decode code 286 = .ok (.iload 4, 2) := by decide +kernel
theorem dL_law_288 : decode code 288 = .ok (.iconst 1, 1) := by decide +kernel
theorem dL_law_289 : decode code 289 = .ok (.iadd, 1) := by decide +kernel
theorem dL_law_290 : decode code 290 = .ok (.iaload, 1) := by decide +kernel
theorem dL_law_291 : decode code 291 = .ok (.aload_n 0, 1) := by decide +kernel
theorem dL_law_292 : decode code 292 = .ok (.iload 4, 2) := by decide +kernel
theorem dL_law_294 : decode code 294 = .ok (.iconst 2, 1) := by decide +kernel
theorem dL_law_295 : decode code 295 = .ok (.iadd, 1) := by decide +kernel
theorem dL_law_296 : decode code 296 = .ok (.iaload, 1) := by decide +kernel
theorem dL_law_297 : decode code 297 = .ok (.aload_n 0, 1) := by decide +kernel
theorem dL_law_298 : decode code 298 = .ok (.iload 4, 2) := by decide +kernel
theorem dL_law_300 : decode code 300 = .ok (.iconst 3, 1) := by decide +kernel
theorem dL_law_301 : decode code 301 = .ok (.iadd, 1) := by decide +kernel
theorem dL_law_302 : decode code 302 = .ok (.iaload, 1) := by decide +kernel
theorem dL_law_303 : decode code 303 = .ok (.invokevirtual 105, 3) := by decide +kernel
theorem dL_law_306 : decode code 306 = .ok (.aload_n 2, 1) := by decide +kernel
theorem dL_law_307 : decode code 307 = .ok (.invokevirtual 96, 3) := by decide +kernel
theorem dL_law_310 : decode code 310 = .ok (.iload 5, 2) := by decide +kernel
theorem dL_law_312 : decode code 312 = .ok (.if_icmp .eq 5, 3) := by decide +kernel
theorem dL_law_315 : decode code 315 = .ok (.iconst 0, 1) := by decide +kernel
theorem dL_law_316 : decode code 316 = .ok (.ireturn, 1) := by decide +kernel
theorem dL_law_317 : decode code 317 = .ok (.goto 897, 3) := by decide +kernel
theorem dL_law_320 : decode code 320 = .ok (.aload_n 1, 1) := by decide +kernel
theorem dL_law_321 : decode code 321 = .ok (.aload_n 0, 1) := by decide +kernel
theorem dL_law_322 : decode code 322 = .ok (.iload 4, 2) := by decide +kernel
theorem dL_law_324 : decode code 324 = .ok (.iconst 1, 1) := by decide +kernel
theorem dL_law_325 : decode code 325 = .ok (.iadd, 1) := by decide +kernel
theorem dL_law_326 : decode code 326 = .ok (.iaload, 1) := by decide +kernel
theorem dL_law_327 : decode code 327 = .ok (.aload_n 0, 1) := by decide +kernel
theorem dL_law_328 : decode code 328 = .ok (.iload 4, 2) := by decide +kernel
theorem dL_law_330 : decode code 330 = .ok (.iconst 2, 1) := by decide +kernel
theorem dL_law_331 : decode code 331 = .ok (.iadd, 1) := by decide +kernel
theorem dL_law_332 : decode code 332 = .ok (.iaload, 1) := by decide +kernel
theorem dL_law_333 : decode code 333 = .ok (.invokestatic 106, 3) := by decide +kernel
theorem dL_law_336 : decode code 336 = .ok (.istore 5, 2) := by decide +kernel
theorem dL_law_338 : decode code 338 = .ok (.aload_n 2, 1) := by decide +kernel
theorem dL_law_339 : decode code 339 = .ok (.aload_n 0, 1) := by decide +kernel
theorem dL_law_340 : decode code 340 = .ok (.iload 4, 2) := by decide +kernel
theorem dL_law_342 : decode code 342 = .ok (.iconst 1, 1) := by decide +kernel
theorem dL_law_343 : decode code 343 = .ok (.iadd, 1) := by decide +kernel
theorem dL_law_344 : decode code 344 = .ok (.iaload, 1) := by decide +kernel
theorem dL_law_345 : decode code 345 = .ok (.aload_n 0, 1) := by decide +kernel
theorem dL_law_346 : decode code 346 = .ok (.iload 4, 2) := by decide +kernel
theorem dL_law_348 : decode code 348 = .ok (.iconst 2, 1) := by decide +kernel
theorem dL_law_349 : decode code 349 = .ok (.iadd, 1) := by decide +kernel
theorem dL_law_350 : decode code 350 = .ok (.iaload, 1) := by decide +kernel
theorem dL_law_351 : decode code 351 = .ok (.invokevirtual 109, 3) := by decide +kernel
theorem dL_law_354 : decode code 354 = .ok (.aload_n 2, 1) := by decide +kernel
theorem dL_law_355 : decode code 355 = .ok (.invokevirtual 96, 3) := by decide +kernel
theorem dL_law_358 : decode code 358 = .ok (.iload 5, 2) := by decide +kernel
theorem dL_law_360 : decode code 360 = .ok (.if_icmp .eq 5, 3) := by decide +kernel
theorem dL_law_363 : decode code 363 = .ok (.iconst 0, 1) := by decide +kernel
theorem dL_law_364 : decode code 364 = .ok (.ireturn, 1) := by decide +kernel
theorem dL_law_365 : decode code 365 = .ok (.goto 849, 3) := by decide +kernel
theorem dL_law_368 : decode code 368 = .ok (.aload_n 1, 1) := by decide +kernel
theorem dL_law_369 : decode code 369 = .ok (.aload_n 0, 1) := by decide +kernel
theorem dL_law_370 : decode code 370 = .ok (.iload 4, 2) := by decide +kernel
theorem dL_law_372 : decode code 372 = .ok (.iconst 1, 1) := by decide +kernel
theorem dL_law_373 : decode code 373 = .ok (.iadd, 1) := by decide +kernel
theorem dL_law_374 : decode code 374 = .ok (.iaload, 1) := by decide +kernel
theorem dL_law_375 : decode code 375 = .ok (.aload_n 0, 1) := by decide +kernel
theorem dL_law_376 : decode code 376 = .ok (.iload 4, 2) := by decide +kernel
theorem dL_law_378 : decode code 378 = .ok (.iconst 2, 1) := by decide +kernel
theorem dL_law_379 : decode code 379 = .ok (.iadd, 1) := by decide +kernel
theorem dL_law_380 : decode code 380 = .ok (.iaload, 1) := by decide +kernel
theorem dL_law_381 : decode code 381 = .ok (.invokestatic 110, 3) := by decide +kernel
theorem dL_law_384 : decode code 384 = .ok (.istore 5, 2) := by decide +kernel
theorem dL_law_386 : decode code 386 = .ok (.aload_n 2, 1) := by decide +kernel
theorem dL_law_387 : decode code 387 = .ok (.aload_n 0, 1) := by decide +kernel
theorem dL_law_388 : decode code 388 = .ok (.iload 4, 2) := by decide +kernel
theorem dL_law_390 : decode code 390 = .ok (.iconst 1, 1) := by decide +kernel
theorem dL_law_391 : decode code 391 = .ok (.iadd, 1) := by decide +kernel
theorem dL_law_392 : decode code 392 = .ok (.iaload, 1) := by decide +kernel
theorem dL_law_393 : decode code 393 = .ok (.aload_n 0, 1) := by decide +kernel
theorem dL_law_394 : decode code 394 = .ok (.iload 4, 2) := by decide +kernel
theorem dL_law_396 : decode code 396 = .ok (.iconst 2, 1) := by decide +kernel
theorem dL_law_397 : decode code 397 = .ok (.iadd, 1) := by decide +kernel
theorem dL_law_398 : decode code 398 = .ok (.iaload, 1) := by decide +kernel
theorem dL_law_399 : decode code 399 = .ok (.invokevirtual 112, 3) := by decide +kernel
theorem dL_law_402 : decode code 402 = .ok (.aload_n 2, 1) := by decide +kernel
theorem dL_law_403 : decode code 403 = .ok (.invokevirtual 96, 3) := by decide +kernel
theorem dL_law_406 : decode code 406 = .ok (.iload 5, 2) := by decide +kernel
theorem dL_law_408 : decode code 408 = .ok (.if_icmp .eq 5, 3) := by decide +kernel
theorem dL_law_411 : decode code 411 = .ok (.iconst 0, 1) := by decide +kernel
theorem dL_law_412 : decode code 412 = .ok (.ireturn, 1) := by decide +kernel
theorem dL_law_413 : decode code 413 = .ok (.goto 801, 3) := by decide +kernel
theorem dL_law_416 : decode code 416 = .ok (.aload_n 1, 1) := by decide +kernel
theorem dL_law_417 : decode code 417 = .ok (.aload_n 0, 1) := by decide +kernel
theorem dL_law_418 : decode code 418 = .ok (.iload 4, 2) := by decide +kernel
theorem dL_law_420 : decode code 420 = .ok (.iconst 1, 1) := by decide +kernel
theorem dL_law_421 : decode code 421 = .ok (.iadd, 1) := by decide +kernel
theorem dL_law_422 : decode code 422 = .ok (.iaload, 1) := by decide +kernel
theorem dL_law_423 : decode code 423 = .ok (.aload_n 0, 1) := by decide +kernel
theorem dL_law_424 : decode code 424 = .ok (.iload 4, 2) := by decide +kernel
theorem dL_law_426 : decode code 426 = .ok (.iconst 2, 1) := by decide +kernel
theorem dL_law_427 : decode code 427 = .ok (.iadd, 1) := by decide +kernel
theorem dL_law_428 : decode code 428 = .ok (.iaload, 1) := by decide +kernel
theorem dL_law_429 : decode code 429 = .ok (.invokestatic 113, 3) := by decide +kernel
theorem dL_law_432 : decode code 432 = .ok (.istore 5, 2) := by decide +kernel
theorem dL_law_434 : decode code 434 = .ok (.aload_n 2, 1) := by decide +kernel
theorem dL_law_435 : decode code 435 = .ok (.aload_n 0, 1) := by decide +kernel
theorem dL_law_436 : decode code 436 = .ok (.iload 4, 2) := by decide +kernel
theorem dL_law_438 : decode code 438 = .ok (.iconst 1, 1) := by decide +kernel
theorem dL_law_439 : decode code 439 = .ok (.iadd, 1) := by decide +kernel
theorem dL_law_440 : decode code 440 = .ok (.iaload, 1) := by decide +kernel
theorem dL_law_441 : decode code 441 = .ok (.aload_n 0, 1) := by decide +kernel
theorem dL_law_442 : decode code 442 = .ok (.iload 4, 2) := by decide +kernel
theorem dL_law_444 : decode code 444 = .ok (.iconst 2, 1) := by decide +kernel
theorem dL_law_445 : decode code 445 = .ok (.iadd, 1) := by decide +kernel
theorem dL_law_446 : decode code 446 = .ok (.iaload, 1) := by decide +kernel
theorem dL_law_447 : decode code 447 = .ok (.invokevirtual 115, 3) := by decide +kernel
theorem dL_law_450 : decode code 450 = .ok (.aload_n 2, 1) := by decide +kernel
theorem dL_law_451 : decode code 451 = .ok (.invokevirtual 96, 3) := by decide +kernel
theorem dL_law_454 : decode code 454 = .ok (.iload 5, 2) := by decide +kernel
theorem dL_law_456 : decode code 456 = .ok (.if_icmp .eq 5, 3) := by decide +kernel
theorem dL_law_459 : decode code 459 = .ok (.iconst 0, 1) := by decide +kernel
theorem dL_law_460 : decode code 460 = .ok (.ireturn, 1) := by decide +kernel
theorem dL_law_461 : decode code 461 = .ok (.goto 753, 3) := by decide +kernel
theorem dL_law_464 : decode code 464 = .ok (.aload_n 1, 1) := by decide +kernel
theorem dL_law_465 : decode code 465 = .ok (.aload_n 0, 1) := by decide +kernel
theorem dL_law_466 : decode code 466 = .ok (.iload 4, 2) := by decide +kernel
