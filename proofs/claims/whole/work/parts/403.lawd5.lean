theorem d_Law_law_406 : decode code 406 = .ok (.iaload, 1) := by decide +kernel
theorem d_Law_law_407 : decode code 407 = .ok (.invokevirtual 53, 3) := by decide +kernel
theorem d_Law_law_410 : decode code 410 = .ok (.aload_n 2, 1) := by decide +kernel
theorem d_Law_law_411 : decode code 411 = .ok (.aload_n 0, 1) := by decide +kernel
theorem d_Law_law_412 : decode code 412 = .ok (.iload_n 3, 1) := by decide +kernel
theorem d_Law_law_413 : decode code 413 = .ok (.iconst 1, 1) := by decide +kernel
theorem d_Law_law_414 : decode code 414 = .ok (.iadd, 1) := by decide +kernel
theorem d_Law_law_415 : decode code 415 = .ok (.iaload, 1) := by decide +kernel
theorem d_Law_law_416 : decode code 416 = .ok (.invokevirtual 56, 3) := by decide +kernel
theorem d_Law_law_419 : decode code 419 = .ok (.if_icmp .eq 272, 3) := by decide +kernel
theorem d_Law_law_422 : decode code 422 = .ok (.iconst 0, 1) := by decide +kernel
theorem d_Law_law_423 : decode code 423 = .ok (.ireturn, 1) := by decide +kernel
theorem d_Law_law_424 : decode code 424 = .ok (.aload_n 1, 1) := by decide +kernel
theorem d_Law_law_425 : decode code 425 = .ok (.aload_n 0, 1) := by decide +kernel
theorem d_Law_law_426 : decode code 426 = .ok (.iload_n 3, 1) := by decide +kernel
theorem d_Law_law_427 : decode code 427 = .ok (.iconst 1, 1) := by decide +kernel
theorem d_Law_law_428 : decode code 428 = .ok (.iadd, 1) := by decide +kernel
theorem d_Law_law_429 : decode code 429 = .ok (.iaload, 1) := by decide +kernel
theorem d_Law_law_430 : decode code 430 = .ok (.aload_n 0, 1) := by decide +kernel
theorem d_Law_law_431 : decode code 431 = .ok (.iload_n 3, 1) := by decide +kernel
theorem d_Law_law_432 : decode code 432 = .ok (.iconst 2, 1) := by decide +kernel
theorem d_Law_law_433 : decode code 433 = .ok (.iadd, 1) := by decide +kernel
theorem d_Law_law_434 : decode code 434 = .ok (.iaload, 1) := by decide +kernel
theorem d_Law_law_435 : decode code 435 = .ok (.invokevirtual 57, 3) := by decide +kernel
theorem d_Law_law_438 : decode code 438 = .ok (.aload_n 2, 1) := by decide +kernel
theorem d_Law_law_439 : decode code 439 = .ok (.aload_n 0, 1) := by decide +kernel
theorem d_Law_law_440 : decode code 440 = .ok (.iload_n 3, 1) := by decide +kernel
theorem d_Law_law_441 : decode code 441 = .ok (.iconst 1, 1) := by decide +kernel
theorem d_Law_law_442 : decode code 442 = .ok (.iadd, 1) := by decide +kernel
theorem d_Law_law_443 : decode code 443 = .ok (.iaload, 1) := by decide +kernel
theorem d_Law_law_444 : decode code 444 = .ok (.aload_n 0, 1) := by decide +kernel
theorem d_Law_law_445 : decode code 445 = .ok (.iload_n 3, 1) := by decide +kernel
theorem d_Law_law_446 : decode code 446 = .ok (.iconst 2, 1) := by decide +kernel
theorem d_Law_law_447 : decode code 447 = .ok (.iadd, 1) := by decide +kernel
theorem d_Law_law_448 : decode code 448 = .ok (.iaload, 1) := by decide +kernel
theorem d_Law_law_449 : decode code 449 = .ok (.invokevirtual 60, 3) := by decide +kernel
theorem d_Law_law_452 : decode code 452 = .ok (.if_icmp .eq 239, 3) := by decide +kernel
theorem d_Law_law_455 : decode code 455 = .ok (.iconst 0, 1) := by decide +kernel
theorem d_Law_law_456 : decode code 456 = .ok (.ireturn, 1) := by decide +kernel
theorem d_Law_law_457 : decode code 457 = .ok (.aload_n 1, 1) := by decide +kernel
theorem d_Law_law_458 : decode code 458 = .ok (.aload_n 0, 1) := by decide +kernel
theorem d_Law_law_459 : decode code 459 = .ok (.iload_n 3, 1) := by decide +kernel
theorem d_Law_law_460 : decode code 460 = .ok (.iconst 1, 1) := by decide +kernel
theorem d_Law_law_461 : decode code 461 = .ok (.iadd, 1) := by decide +kernel
theorem d_Law_law_462 : decode code 462 = .ok (.iaload, 1) := by decide +kernel
theorem d_Law_law_463 : decode code 463 = .ok (.invokevirtual 61, 3) := by decide +kernel
theorem d_Law_law_466 : decode code 466 = .ok (.aload_n 2, 1) := by decide +kernel
theorem d_Law_law_467 : decode code 467 = .ok (.aload_n 0, 1) := by decide +kernel
theorem d_Law_law_468 : decode code 468 = .ok (.iload_n 3, 1) := by decide +kernel
theorem d_Law_law_469 : decode code 469 = .ok (.iconst 1, 1) := by decide +kernel
