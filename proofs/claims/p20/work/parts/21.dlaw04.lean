theorem d_law_392 : decode code 392 = .ok (.pop, 1) := by decide +kernel
theorem d_law_393 : decode code 393 = .ok (.goto 376, 3) := by decide +kernel
theorem d_law_396 : decode code 396 = .ok (.aload_n 1, 1) := by decide +kernel
theorem d_law_397 : decode code 397 = .ok (.aload_n 0, 1) := by decide +kernel
theorem d_law_398 : decode code 398 = .ok (.iload_n 3, 1) := by decide +kernel
theorem d_law_399 : decode code 399 = .ok (.iconst 1, 1) := by decide +kernel
theorem d_law_400 : decode code 400 = .ok (.iadd, 1) := by decide +kernel
theorem d_law_401 : decode code 401 = .ok (.iaload, 1) := by decide +kernel
theorem d_law_402 : decode code 402 = .ok (.invokevirtual 52, 3) := by decide +kernel
theorem d_law_405 : decode code 405 = .ok (.pop, 1) := by decide +kernel
theorem d_law_406 : decode code 406 = .ok (.aload_n 2, 1) := by decide +kernel
theorem d_law_407 : decode code 407 = .ok (.aload_n 0, 1) := by decide +kernel
theorem d_law_408 : decode code 408 = .ok (.iload_n 3, 1) := by decide +kernel
theorem d_law_409 : decode code 409 = .ok (.iconst 1, 1) := by decide +kernel
theorem d_law_410 : decode code 410 = .ok (.iadd, 1) := by decide +kernel
theorem d_law_411 : decode code 411 = .ok (.iaload, 1) := by decide +kernel
theorem d_law_412 : decode code 412 = .ok (.invokevirtual 55, 3) := by decide +kernel
theorem d_law_415 : decode code 415 = .ok (.pop, 1) := by decide +kernel
theorem d_law_416 : decode code 416 = .ok (.goto 353, 3) := by decide +kernel
theorem d_law_419 : decode code 419 = .ok (.aload_n 1, 1) := by decide +kernel
theorem d_law_420 : decode code 420 = .ok (.aload_n 0, 1) := by decide +kernel
theorem d_law_421 : decode code 421 = .ok (.iload_n 3, 1) := by decide +kernel
theorem d_law_422 : decode code 422 = .ok (.iconst 1, 1) := by decide +kernel
theorem d_law_423 : decode code 423 = .ok (.iadd, 1) := by decide +kernel
theorem d_law_424 : decode code 424 = .ok (.iaload, 1) := by decide +kernel
theorem d_law_425 : decode code 425 = .ok (.aload_n 0, 1) := by decide +kernel
theorem d_law_426 : decode code 426 = .ok (.iload_n 3, 1) := by decide +kernel
theorem d_law_427 : decode code 427 = .ok (.iconst 2, 1) := by decide +kernel
theorem d_law_428 : decode code 428 = .ok (.iadd, 1) := by decide +kernel
theorem d_law_429 : decode code 429 = .ok (.iaload, 1) := by decide +kernel
theorem d_law_430 : decode code 430 = .ok (.invokevirtual 56, 3) := by decide +kernel
theorem d_law_433 : decode code 433 = .ok (.pop, 1) := by decide +kernel
theorem d_law_434 : decode code 434 = .ok (.aload_n 2, 1) := by decide +kernel
theorem d_law_435 : decode code 435 = .ok (.aload_n 0, 1) := by decide +kernel
theorem d_law_436 : decode code 436 = .ok (.iload_n 3, 1) := by decide +kernel
theorem d_law_437 : decode code 437 = .ok (.iconst 1, 1) := by decide +kernel
theorem d_law_438 : decode code 438 = .ok (.iadd, 1) := by decide +kernel
theorem d_law_439 : decode code 439 = .ok (.iaload, 1) := by decide +kernel
theorem d_law_440 : decode code 440 = .ok (.aload_n 0, 1) := by decide +kernel
theorem d_law_441 : decode code 441 = .ok (.iload_n 3, 1) := by decide +kernel
theorem d_law_442 : decode code 442 = .ok (.iconst 2, 1) := by decide +kernel
theorem d_law_443 : decode code 443 = .ok (.iadd, 1) := by decide +kernel
theorem d_law_444 : decode code 444 = .ok (.iaload, 1) := by decide +kernel
theorem d_law_445 : decode code 445 = .ok (.invokevirtual 60, 3) := by decide +kernel
theorem d_law_448 : decode code 448 = .ok (.pop, 1) := by decide +kernel
theorem d_law_449 : decode code 449 = .ok (.goto 320, 3) := by decide +kernel
theorem d_law_452 : decode code 452 = .ok (.aload_n 1, 1) := by decide +kernel
theorem d_law_453 : decode code 453 = .ok (.aload_n 0, 1) := by decide +kernel
theorem d_law_454 : decode code 454 = .ok (.iload_n 3, 1) := by decide +kernel
theorem d_law_455 : decode code 455 = .ok (.iconst 1, 1) := by decide +kernel
theorem d_law_456 : decode code 456 = .ok (.iadd, 1) := by decide +kernel
theorem d_law_457 : decode code 457 = .ok (.iaload, 1) := by decide +kernel
theorem d_law_458 : decode code 458 = .ok (.ifCond .eq 7, 3) := by decide +kernel
theorem d_law_461 : decode code 461 = .ok (.iconst 1, 1) := by decide +kernel
theorem d_law_462 : decode code 462 = .ok (.goto 4, 3) := by decide +kernel
theorem d_law_465 : decode code 465 = .ok (.iconst 0, 1) := by decide +kernel
theorem d_law_466 : decode code 466 = .ok (.invokevirtual 61, 3) := by decide +kernel
theorem d_law_469 : decode code 469 = .ok (.aload_n 2, 1) := by decide +kernel
theorem d_law_470 : decode code 470 = .ok (.aload_n 0, 1) := by decide +kernel
theorem d_law_471 : decode code 471 = .ok (.iload_n 3, 1) := by decide +kernel
