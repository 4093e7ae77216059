theorem d_L_law_405 : decode c_L_law 405 = .ok (.aload_n 2, 1) := by decide +kernel
theorem d_L_law_406 : decode c_L_law 406 = .ok (.aload_n 0, 1) := by decide +kernel
theorem d_L_law_407 : decode c_L_law 407 = .ok (.iload 4, 2) := by decide +kernel
theorem d_L_law_409 : decode c_L_law 409 = .ok (.iconst 1, 1) := by decide +kernel
theorem d_L_law_410 : decode c_L_law 410 = .ok (.iadd, 1) := by decide +kernel
theorem d_L_law_411 : decode c_L_law 411 = .ok (.iaload, 1) := by decide +kernel
theorem d_L_law_412 : decode c_L_law 412 = .ok (.aload_n 0, 1) := by decide +kernel
theorem d_L_law_413 : decode c_L_law 413 = .ok (.iload 4, 2) := by decide +kernel
theorem d_L_law_415 : decode c_L_law 415 = .ok (.iconst 2, 1) := by decide +kernel
theorem d_L_law_416 : decode c_L_law 416 = .ok (.iadd, 1) := by decide +kernel
theorem d_L_law_417 : decode c_L_law 417 = .ok (.iaload, 1) := by decide +kernel
theorem d_L_law_418 : decode c_L_law 418 = .ok (.aload_n 0, 1) := by decide +kernel
theorem d_L_law_419 : decode c_L_law 419 = .ok (.iload 4, 2) := by decide +kernel
theorem d_L_law_421 : decode c_L_law 421 = .ok (.iconst 3, 1) := by decide +kernel
theorem d_L_law_422 : decode c_L_law 422 = .ok (.iadd, 1) := by decide +kernel
theorem d_L_law_423 : decode c_L_law 423 = .ok (.iaload, 1) := by decide +kernel
theorem d_L_law_424 : decode c_L_law 424 = .ok (.invokevirtual 92, 3) := by decide +kernel
theorem d_L_law_427 : decode c_L_law 427 = .ok (.istore 6, 2) := by decide +kernel
theorem d_L_law_429 : decode c_L_law 429 = .ok (.aload_n 2, 1) := by decide +kernel
theorem d_L_law_430 : decode c_L_law 430 = .ok (.invokevirtual 74, 3) := by decide +kernel
theorem d_L_law_433 : decode c_L_law 433 = .ok (.iload 5, 2) := by decide +kernel
theorem d_L_law_435 : decode c_L_law 435 = .ok (.if_icmp .eq 5, 3) := by decide +kernel
theorem d_L_law_438 : decode c_L_law 438 = .ok (.iconst 0, 1) := by decide +kernel
theorem d_L_law_439 : decode c_L_law 439 = .ok (.ireturn, 1) := by decide +kernel
theorem d_L_law_440 : decode c_L_law 440 = .ok (.iload 5, 2) := by decide +kernel
theorem d_L_law_442 : decode c_L_law 442 = .ok (.ifCond .ne 15, 3) := by decide +kernel
theorem d_L_law_445 : decode c_L_law 445 = .ok (.aload_n 3, 1) := by decide +kernel
theorem d_L_law_446 : decode c_L_law 446 = .ok (.iconst 0, 1) := by decide +kernel
theorem d_L_law_447 : decode c_L_law 447 = .ok (.laload, 1) := by decide +kernel
theorem d_L_law_448 : decode c_L_law 448 = .ok (.iload 6, 2) := by decide +kernel
theorem d_L_law_450 : decode c_L_law 450 = .ok (.i2l, 1) := by decide +kernel
theorem d_L_law_451 : decode c_L_law 451 = .ok (.lcmp, 1) := by decide +kernel
theorem d_L_law_452 : decode c_L_law 452 = .ok (.ifCond .eq 5, 3) := by decide +kernel
theorem d_L_law_455 : decode c_L_law 455 = .ok (.iconst 0, 1) := by decide +kernel
theorem d_L_law_456 : decode c_L_law 456 = .ok (.ireturn, 1) := by decide +kernel
theorem d_L_law_457 : decode c_L_law 457 = .ok (.goto 584, 3) := by decide +kernel
theorem d_L_law_460 : decode c_L_law 460 = .ok (.aload_n 1, 1) := by decide +kernel
theorem d_L_law_461 : decode c_L_law 461 = .ok (.aload_n 0, 1) := by decide +kernel
theorem d_L_law_462 : decode c_L_law 462 = .ok (.iload 4, 2) := by decide +kernel
theorem d_L_law_464 : decode c_L_law 464 = .ok (.iconst 1, 1) := by decide +kernel
theorem d_L_law_465 : decode c_L_law 465 = .ok (.iadd, 1) := by decide +kernel
theorem d_L_law_466 : decode c_L_law 466 = .ok (.iaload, 1) := by decide +kernel
theorem d_L_law_467 : decode c_L_law 467 = .ok (.aload_n 3, 1) := by decide +kernel
theorem d_L_law_468 : decode c_L_law 468 = .ok (.invokestatic 93, 3) := by decide +kernel
theorem d_L_law_471 : decode c_L_law 471 = .ok (.istore 5, 2) := by decide +kernel
theorem d_L_law_473 : decode c_L_law 473 = .ok (.aload_n 2, 1) := by decide +kernel
theorem d_L_law_474 : decode c_L_law 474 = .ok (.aload_n 0, 1) := by decide +kernel
theorem d_L_law_475 : decode c_L_law 475 = .ok (.iload 4, 2) := by decide +kernel
theorem d_L_law_477 : decode c_L_law 477 = .ok (.iconst 1, 1) := by decide +kernel
theorem d_L_law_478 : decode c_L_law 478 = .ok (.iadd, 1) := by decide +kernel
theorem d_L_law_479 : decode c_L_law 479 = .ok (.iaload, 1) := by decide +kernel
theorem d_L_law_480 : decode c_L_law 480 = .ok (.invokevirtual 95, 3) := by decide +kernel
theorem d_L_law_483 : decode c_L_law 483 = .ok (.istore 6, 2) := by decide +kernel
theorem d_L_law_485 : decode c_L_law 485 = .ok (.aload_n 2, 1) := by decide +kernel
theorem d_L_law_486 : decode c_L_law 486 = .ok (.invokevirtual 74, 3) := by decide +kernel
theorem d_L_law_489 : decode c_L_law 489 = .ok (.iload 5, 2) := by decide +kernel
theorem d_L_law_491 : decode c_L_law 491 = .ok (.if_icmp .eq 5, 3) := by decide +kernel
theorem d_L_law_494 : decode c_L_law 494 = .ok (.iconst 0, 1) := by decide +kernel
theorem d_L_law_495 : decode c_L_law 495 = .ok (.ireturn, 1) := by decide +kernel
theorem d_L_law_496 : decode c_L_law 496 = .ok (.iload 5, 2) := by decide +kernel
theorem d_L_law_498 : decode c_L_law 498 = .ok (.ifCond .ne 15, 3) := by decide +kernel
theorem d_L_law_501 : decode c_L_law 501 = .ok (.aload_n 3, 1) := by decide +kernel
theorem d_L_law_502 : decode c_L_law 502 = .ok (.iconst 0, 1) := by decide +kernel
theorem d_L_law_503 : decode c_L_law 503 = .ok (.laload, 1) := by decide +kernel
theorem d_L_law_504 : decode c_L_law 504 = .ok (.iload 6, 2) := by decide +kernel
theorem d_L_law_506 : decode c_L_law 506 = .ok (.i2l, 1) := by decide +kernel
theorem d_L_law_507 : decode c_L_law 507 = .ok (.lcmp, 1) := by decide +kernel
theorem d_L_law_508 : decode c_L_law 508 = .ok (.ifCond .eq 5, 3) := by decide +kernel
theorem d_L_law_511 : decode c_L_law 511 = .ok (.iconst 0, 1) := by decide +kernel
theorem d_L_law_512 : decode c_L_law 512 = .ok (.ireturn, 1) := by decide +kernel
theorem d_L_law_513 : decode c_L_law 513 = .ok (.goto 528, 3) := by decide +kernel
theorem d_L_law_516 : decode c_L_law 516 = .ok (.aload_n 1, 1) := by decide +kernel
theorem d_L_law_517 : decode c_L_law 517 = .ok (.invokevirtual 96, 3) := by decide +kernel
theorem d_L_law_520 : decode c_L_law 520 = .ok (.aload_n 2, 1) := by decide +kernel
theorem d_L_law_521 : decode c_L_law 521 = .ok (.invokevirtual 99, 3) := by decide +kernel
theorem d_L_law_524 : decode c_L_law 524 = .ok (.if_icmp .eq 517, 3) := by decide +kernel
theorem d_L_law_527 : decode c_L_law 527 = .ok (.iconst 0, 1) := by decide +kernel
theorem d_L_law_528 : decode c_L_law 528 = .ok (.ireturn, 1) := by decide +kernel
theorem d_L_law_529 : decode c_L_law 529 = .ok (.aload_n 1, 1) := by decide +kernel
theorem d_L_law_530 : decode c_L_law 530 = .ok (.aload_n 0, 1) := by decide +kernel
theorem d_L_law_531 : decode c_L_law 531 = .ok (.iload 4, 2) := by decide +kernel
theorem d_L_law_533 : decode c_L_law 533 = .ok (.iconst 1, 1) := by decide +kernel
theorem d_L_law_534 : decode c_L_law 534 = .ok (.iadd, 1) := by decide +kernel
theorem d_L_law_535 : decode c_L_law 535 = .ok (.iaload, 1) := by decide +kernel
theorem d_L_law_536 : decode c_L_law 536 = .ok (.aload_n 0, 1) := by decide +kernel
theorem d_L_law_537 : decode c_L_law 537 = .ok (.iload 4, 2) := by decide +kernel
theorem d_L_law_539 : decode c_L_law 539 = .ok (.iconst 2, 1) := by decide +kernel
theorem d_L_law_540 : decode c_L_law 540 = .ok (.iadd, 1) := by decide +kernel
theorem d_L_law_541 : decode c_L_law 541 = .ok (.iaload, 1) := by decide +kernel
theorem d_L_law_542 : decode c_L_law 542 = .ok (.aload_n 3, 1) := by decide +kernel
theorem d_L_law_543 : decode c_L_law 543 = .ok (.invokestatic 100, 3) := by decide +kernel
theorem d_L_law_546 : decode c_L_law 546 = .ok (.istore 5, 2) := by decide +kernel
theorem d_L_law_548 : decode c_L_law 548 = .ok (.aload_n 2, 1) := by decide +kernel
theorem d_L_law_549 : decode c_L_law 549 = .ok (.aload_n 0, 1) := by decide +kernel
theorem d_L_law_550 : decode c_L_law 550 = .ok (.iload 4, 2) := by decide +kernel
theorem d_L_law_552 : decode c_L_law 552 = .ok (.iconst 1, 1) := by decide +kernel
theorem d_L_law_553 : decode c_L_law 553 = .ok (.iadd, 1) := by decide +kernel
theorem d_L_law_554 : decode c_L_law 554 = .ok (.iaload, 1) := by decide +kernel
theorem d_L_law_555 : decode c_L_law 555 = .ok (.aload_n 0, 1) := by decide +kernel
theorem d_L_law_556 : decode c_L_law 556 = .ok (.iload 4, 2) := by decide +kernel
theorem d_L_law_558 : decode c_L_law 558 = .ok (.iconst 2, 1) := by decide +kernel
theorem d_L_law_559 : decode c_L_law 559 = .ok (.iadd, 1) := by decide +kernel
theorem d_L_law_560 : decode c_L_law 560 = .ok (.iaload, 1) := by decide +kernel
theorem d_L_law_561 : decode c_L_law 561 = .ok (.invokevirtual 102, 3) := by decide +kernel
theorem d_L_law_564 : decode c_L_law 564 = .ok (.istore 6, 2) := by decide +kernel
theorem d_L_law_566 : decode c_L_law 566 = .ok (.aload_n 2, 1) := by decide +kernel
theorem d_L_law_567 : decode c_L_law 567 = .ok (.invokevirtual 74, 3) := by decide +kernel
theorem d_L_law_570 : decode c_L_law 570 = .ok (.iload 5, 2) := by decide +kernel
theorem d_L_law_572 : decode c_L_law 572 = .ok (.if_icmp .eq 5, 3) := by decide +kernel
theorem d_L_law_575 : decode c_L_law 575 = .ok (.iconst 0, 1) := by decide +kernel
