theorem dL_step_281 : decode cL_step 281 = .ok (.iconst 1, 1) := by decide +kernel
theorem dL_step_282 : decode cL_step 282 = .ok (.invokevirtual 68, 3) := by decide +kernel
theorem dL_step_285 : decode cL_step 285 = .ok (.iconst 1, 1) := by decide +kernel
theorem dL_step_286 : decode cL_step 286 = .ok (.iload 5, 2) := by decide +kernel
theorem dL_step_288 : decode cL_step 288 = .ok (.bipush 8, 2) := by decide +kernel
theorem dL_step_290 : decode cL_step 290 = .ok (.idiv, 1) := by decide +kernel
theorem dL_step_291 : decode cL_step 291 = .ok (.ldc 63, 2) := by decide +kernel
theorem dL_step_293 : decode cL_step 293 = .ok (.irem, 1) := by decide +kernel
theorem dL_step_294 : decode cL_step 294 = .ok (.iadd, 1) := by decide +kernel
theorem dL_step_295 : decode cL_step 295 = .ok (.i2l, 1) := by decide +kernel
theorem dL_step_296 : decode cL_step 296 = .ok (.lcmp, 1) := by decide +kernel
theorem dL_step_297 : decode cL_step 297 = .ok (.ifCond .ne 22, 3) := by decide +kernel
theorem dL_step_300 : decode cL_step 300 = .ok (.aload_n 0, 1) := by decide +kernel
theorem dL_step_301 : decode cL_step 301 = .ok (.iload 8, 2) := by decide +kernel
theorem dL_step_303 : decode cL_step 303 = .ok (.bipush 7, 2) := by decide +kernel
theorem dL_step_305 : decode cL_step 305 = .ok (.invokevirtual 68, 3) := by decide +kernel
theorem dL_step_308 : decode cL_step 308 = .ok (.ldc2_w 71, 3) := by decide +kernel
theorem dL_step_311 : decode cL_step 311 = .ok (.lcmp, 1) := by decide +kernel
theorem dL_step_312 : decode cL_step 312 = .ok (.ifCond .ne 7, 3) := by decide +kernel
theorem dL_step_315 : decode cL_step 315 = .ok (.iconst 1, 1) := by decide +kernel
theorem dL_step_316 : decode cL_step 316 = .ok (.goto 4, 3) := by decide +kernel
theorem dL_step_319 : decode cL_step 319 = .ok (.iconst 0, 1) := by decide +kernel
theorem dL_step_320 : decode cL_step 320 = .ok (.ireturn, 1) := by decide +kernel
theorem dL_step_321 : decode cL_step 321 = .ok (.aload_n 0, 1) := by decide +kernel
theorem dL_step_322 : decode cL_step 322 = .ok (.iconst 1, 1) := by decide +kernel
theorem dL_step_323 : decode cL_step 323 = .ok (.invokevirtual 73, 3) := by decide +kernel
theorem dL_step_326 : decode cL_step 326 = .ok (.lstore 9, 2) := by decide +kernel
theorem dL_step_328 : decode cL_step 328 = .ok (.aload_n 0, 1) := by decide +kernel
theorem dL_step_329 : decode cL_step 329 = .ok (.iload 6, 2) := by decide +kernel
theorem dL_step_331 : decode cL_step 331 = .ok (.iconst 5, 1) := by decide +kernel
theorem dL_step_332 : decode cL_step 332 = .ok (.invokevirtual 68, 3) := by decide +kernel
theorem dL_step_335 : decode cL_step 335 = .ok (.lstore 11, 2) := by decide +kernel
theorem dL_step_337 : decode cL_step 337 = .ok (.iconst 1, 1) := by decide +kernel
theorem dL_step_338 : decode cL_step 338 = .ok (.iload 5, 2) := by decide +kernel
theorem dL_step_340 : decode cL_step 340 = .ok (.ldc 63, 2) := by decide +kernel
theorem dL_step_342 : decode cL_step 342 = .ok (.irem, 1) := by decide +kernel
theorem dL_step_343 : decode cL_step 343 = .ok (.iadd, 1) := by decide +kernel
theorem dL_step_344 : decode cL_step 344 = .ok (.istore 13, 2) := by decide +kernel
theorem dL_step_346 : decode cL_step 346 = .ok (.aload_n 0, 1) := by decide +kernel
theorem dL_step_347 : decode cL_step 347 = .ok (.iload 6, 2) := by decide +kernel
theorem dL_step_349 : decode cL_step 349 = .ok (.iload 13, 2) := by decide +kernel
theorem dL_step_351 : decode cL_step 351 = .ok (.invokestatic 76, 3) := by decide +kernel
theorem dL_step_354 : decode cL_step 354 = .ok (.lstore 14, 2) := by decide +kernel
theorem dL_step_356 : decode cL_step 356 = .ok (.lload 14, 2) := by decide +kernel
theorem dL_step_358 : decode cL_step 358 = .ok (.ldc2_w 24, 3) := by decide +kernel
theorem dL_step_361 : decode cL_step 361 = .ok (.lcmp, 1) := by decide +kernel
theorem dL_step_362 : decode cL_step 362 = .ok (.ifCond .ne 43, 3) := by decide +kernel
theorem dL_step_365 : decode cL_step 365 = .ok (.aload_n 0, 1) := by decide +kernel
theorem dL_step_366 : decode cL_step 366 = .ok (.iconst 1, 1) := by decide +kernel
theorem dL_step_367 : decode cL_step 367 = .ok (.invokevirtual 73, 3) := by decide +kernel
theorem dL_step_370 : decode cL_step 370 = .ok (.lload 9, 2) := by decide +kernel
theorem dL_step_372 : decode cL_step 372 = .ok (.lcmp, 1) := by decide +kernel
theorem dL_step_373 : decode cL_step 373 = .ok (.ifCond .ne 28, 3) := by decide +kernel
theorem dL_step_376 : decode cL_step 376 = .ok (.lload 9, 2) := by decide +kernel
theorem dL_step_378 : decode cL_step 378 = .ok (.iload 13, 2) := by decide +kernel
theorem dL_step_380 : decode cL_step 380 = .ok (.i2l, 1) := by decide +kernel
theorem dL_step_381 : decode cL_step 381 = .ok (.lcmp, 1) := by decide +kernel
theorem dL_step_382 : decode cL_step 382 = .ok (.ifCond .lt 15, 3) := by decide +kernel
theorem dL_step_385 : decode cL_step 385 = .ok (.aload_n 0, 1) := by decide +kernel
theorem dL_step_386 : decode cL_step 386 = .ok (.iload 6, 2) := by decide +kernel
theorem dL_step_388 : decode cL_step 388 = .ok (.iconst 0, 1) := by decide +kernel
theorem dL_step_389 : decode cL_step 389 = .ok (.invokevirtual 68, 3) := by decide +kernel
theorem dL_step_392 : decode cL_step 392 = .ok (.lconst 0, 1) := by decide +kernel
theorem dL_step_393 : decode cL_step 393 = .ok (.lcmp, 1) := by decide +kernel
theorem dL_step_394 : decode cL_step 394 = .ok (.ifCond .le 7, 3) := by decide +kernel
theorem dL_step_397 : decode cL_step 397 = .ok (.iconst 1, 1) := by decide +kernel
theorem dL_step_398 : decode cL_step 398 = .ok (.goto 39, 3) := by decide +kernel
theorem dL_step_401 : decode cL_step 401 = .ok (.iconst 0, 1) := by decide +kernel
theorem dL_step_402 : decode cL_step 402 = .ok (.goto 35, 3) := by decide +kernel
theorem dL_step_405 : decode cL_step 405 = .ok (.lload 14, 2) := by decide +kernel
theorem dL_step_407 : decode cL_step 407 = .ok (.lload 11, 2) := by decide +kernel
theorem dL_step_409 : decode cL_step 409 = .ok (.iload 13, 2) := by decide +kernel
theorem dL_step_411 : decode cL_step 411 = .ok (.i2l, 1) := by decide +kernel
theorem dL_step_412 : decode cL_step 412 = .ok (.ladd, 1) := by decide +kernel
theorem dL_step_413 : decode cL_step 413 = .ok (.lcmp, 1) := by decide +kernel
theorem dL_step_414 : decode cL_step 414 = .ok (.ifCond .ne 22, 3) := by decide +kernel
theorem dL_step_417 : decode cL_step 417 = .ok (.aload_n 0, 1) := by decide +kernel
theorem dL_step_418 : decode cL_step 418 = .ok (.iconst 1, 1) := by decide +kernel
theorem dL_step_419 : decode cL_step 419 = .ok (.invokevirtual 73, 3) := by decide +kernel
theorem dL_step_422 : decode cL_step 422 = .ok (.lload 9, 2) := by decide +kernel
theorem dL_step_424 : decode cL_step 424 = .ok (.iload 13, 2) := by decide +kernel
theorem dL_step_426 : decode cL_step 426 = .ok (.i2l, 1) := by decide +kernel
theorem dL_step_427 : decode cL_step 427 = .ok (.lsub, 1) := by decide +kernel
theorem dL_step_428 : decode cL_step 428 = .ok (.lcmp, 1) := by decide +kernel
theorem dL_step_429 : decode cL_step 429 = .ok (.ifCond .ne 7, 3) := by decide +kernel
theorem dL_step_432 : decode cL_step 432 = .ok (.iconst 1, 1) := by decide +kernel
theorem dL_step_433 : decode cL_step 433 = .ok (.goto 4, 3) := by decide +kernel
theorem dL_step_436 : decode cL_step 436 = .ok (.iconst 0, 1) := by decide +kernel
theorem dL_step_437 : decode cL_step 437 = .ok (.ireturn, 1) := by decide +kernel
theorem dL_step_438 : decode cL_step 438 = .ok (.aload_n 0, 1) := by decide +kernel
theorem dL_step_439 : decode cL_step 439 = .ok (.iload 6, 2) := by decide +kernel
theorem dL_step_441 : decode cL_step 441 = .ok (.invokestatic 80, 3) := by decide +kernel
theorem dL_step_444 : decode cL_step 444 = .ok (.lstore 16, 2) := by decide +kernel
theorem dL_step_446 : decode cL_step 446 = .ok (.lload 16, 2) := by decide +kernel
theorem dL_step_448 : decode cL_step 448 = .ok (.ldc2_w 24, 3) := by decide +kernel
theorem dL_step_451 : decode cL_step 451 = .ok (.lcmp, 1) := by decide +kernel
theorem dL_step_452 : decode cL_step 452 = .ok (.ifCond .eq 14, 3) := by decide +kernel
theorem dL_step_455 : decode cL_step 455 = .ok (.lload 16, 2) := by decide +kernel
theorem dL_step_457 : decode cL_step 457 = .ok (.aload_n 0, 1) := by decide +kernel
theorem dL_step_458 : decode cL_step 458 = .ok (.iconst 3, 1) := by decide +kernel
theorem dL_step_459 : decode cL_step 459 = .ok (.invokevirtual 73, 3) := by decide +kernel
theorem dL_step_462 : decode cL_step 462 = .ok (.lcmp, 1) := by decide +kernel
theorem dL_step_463 : decode cL_step 463 = .ok (.ifCond .ne 20, 3) := by decide +kernel
theorem dL_step_466 : decode cL_step 466 = .ok (.aload_n 0, 1) := by decide +kernel
theorem dL_step_467 : decode cL_step 467 = .ok (.iload 6, 2) := by decide +kernel
theorem dL_step_469 : decode cL_step 469 = .ok (.invokestatic 80, 3) := by decide +kernel
theorem dL_step_472 : decode cL_step 472 = .ok (.ldc2_w 24, 3) := by decide +kernel
theorem dL_step_475 : decode cL_step 475 = .ok (.lcmp, 1) := by decide +kernel
theorem dL_step_476 : decode cL_step 476 = .ok (.ifCond .ne 7, 3) := by decide +kernel
theorem dL_step_479 : decode cL_step 479 = .ok (.iconst 1, 1) := by decide +kernel
theorem dL_step_480 : decode cL_step 480 = .ok (.goto 4, 3) := by decide +kernel
theorem dL_step_483 : decode cL_step 483 = .ok (.iconst 0, 1) := by decide +kernel
theorem dL_step_484 : decode cL_step 484 = .ok (.ireturn, 1) := by decide +kernel
theorem dL_step_485 : decode cL_step 485 = .ok (.aload_n 1, 1) := by decide +kernel
theorem dL_step_486 : decode cL_step 486 = .ok (.iconst 3, 1) := by decide +kernel
theorem dL_step_487 : decode cL_step 487 = .ok (.iload 5, 2) := by decide +kernel
theorem dL_step_489 : decode cL_step 489 = .ok (.sipush 401, 3) := by decide +kernel
theorem dL_step_492 : decode cL_step 492 = .ok (.irem, 1) := by decide +kernel
theorem dL_step_493 : decode cL_step 493 = .ok (.sipush 200, 3) := by decide +kernel
theorem dL_step_496 : decode cL_step 496 = .ok (.isub, 1) := by decide +kernel
theorem dL_step_497 : decode cL_step 497 = .ok (.iastore, 1) := by decide +kernel
theorem dL_step_498 : decode cL_step 498 = .ok (.aload_n 2, 1) := by decide +kernel
theorem dL_step_499 : decode cL_step 499 = .ok (.iconst 0, 1) := by decide +kernel
theorem dL_step_500 : decode cL_step 500 = .ok (.dup2, 1) := by decide +kernel
theorem dL_step_501 : decode cL_step 501 = .ok (.laload, 1) := by decide +kernel
theorem dL_step_502 : decode cL_step 502 = .ok (.iload 5, 2) := by decide +kernel
theorem dL_step_504 : decode cL_step 504 = .ok (.ldc 84, 2) := by decide +kernel
theorem dL_step_506 : decode cL_step 506 = .ok (.irem, 1) := by decide +kernel
theorem dL_step_507 : decode cL_step 507 = .ok (.i2l, 1) := by decide +kernel
theorem dL_step_508 : decode cL_step 508 = .ok (.ladd, 1) := by decide +kernel
theorem dL_step_509 : decode cL_step 509 = .ok (.lastore, 1) := by decide +kernel
theorem dL_step_510 : decode cL_step 510 = .ok (.aload_n 0, 1) := by decide +kernel
theorem dL_step_511 : decode cL_step 511 = .ok (.iconst 1, 1) := by decide +kernel
theorem dL_step_512 : decode cL_step 512 = .ok (.invokevirtual 73, 3) := by decide +kernel
theorem dL_step_515 : decode cL_step 515 = .ok (.lstore 18, 2) := by decide +kernel
theorem dL_step_517 : decode cL_step 517 = .ok (.aload_n 0, 1) := by decide +kernel
theorem dL_step_518 : decode cL_step 518 = .ok (.iload 4, 2) := by decide +kernel
theorem dL_step_520 : decode cL_step 520 = .ok (.sipush 2001, 3) := by decide +kernel
theorem dL_step_523 : decode cL_step 523 = .ok (.irem, 1) := by decide +kernel
theorem dL_step_524 : decode cL_step 524 = .ok (.sipush 1000, 3) := by decide +kernel
theorem dL_step_527 : decode cL_step 527 = .ok (.isub, 1) := by decide +kernel
theorem dL_step_528 : decode cL_step 528 = .ok (.aload_n 1, 1) := by decide +kernel
theorem dL_step_529 : decode cL_step 529 = .ok (.iconst 3, 1) := by decide +kernel
theorem dL_step_530 : decode cL_step 530 = .ok (.iaload, 1) := by decide +kernel
theorem dL_step_531 : decode cL_step 531 = .ok (.iload 5, 2) := by decide +kernel
theorem dL_step_533 : decode cL_step 533 = .ok (.ldc 84, 2) := by decide +kernel
theorem dL_step_535 : decode cL_step 535 = .ok (.irem, 1) := by decide +kernel
theorem dL_step_536 : decode cL_step 536 = .ok (.invokevirtual 85, 3) := by decide +kernel
theorem dL_step_539 : decode cL_step 539 = .ok (.lload 18, 2) := by decide +kernel
theorem dL_step_541 : decode cL_step 541 = .ok (.iload 5, 2) := by decide +kernel
theorem dL_step_543 : decode cL_step 543 = .ok (.ldc 84, 2) := by decide +kernel
theorem dL_step_545 : decode cL_step 545 = .ok (.irem, 1) := by decide +kernel
theorem dL_step_546 : decode cL_step 546 = .ok (.i2l, 1) := by decide +kernel
theorem dL_step_547 : decode cL_step 547 = .ok (.ladd, 1) := by decide +kernel
theorem dL_step_548 : decode cL_step 548 = .ok (.lcmp, 1) := by decide +kernel
theorem dL_step_549 : decode cL_step 549 = .ok (.ifCond .ne 7, 3) := by decide +kernel
theorem dL_step_552 : decode cL_step 552 = .ok (.iconst 1, 1) := by decide +kernel
theorem dL_step_553 : decode cL_step 553 = .ok (.goto 4, 3) := by decide +kernel
theorem dL_step_556 : decode cL_step 556 = .ok (.iconst 0, 1) := by decide +kernel
theorem dL_step_557 : decode cL_step 557 = .ok (.ireturn, 1) := by decide +kernel
theorem dL_step_558 : decode cL_step 558 = .ok (.aload_n 0, 1) := by decide +kernel
theorem dL_step_559 : decode cL_step 559 = .ok (.iload 4, 2) := by decide +kernel
theorem dL_step_561 : decode cL_step 561 = .ok (.iconst 5, 1) := by decide +kernel
theorem dL_step_562 : decode cL_step 562 = .ok (.irem, 1) := by decide +kernel
theorem dL_step_563 : decode cL_step 563 = .ok (.iload 5, 2) := by decide +kernel
theorem dL_step_565 : decode cL_step 565 = .ok (.iconst 2, 1) := by decide +kernel
theorem dL_step_566 : decode cL_step 566 = .ok (.irem, 1) := by decide +kernel
theorem dL_step_567 : decode cL_step 567 = .ok (.ifCond .ne 7, 3) := by decide +kernel
theorem dL_step_570 : decode cL_step 570 = .ok (.iconst 1, 1) := by decide +kernel
theorem dL_step_571 : decode cL_step 571 = .ok (.goto 4, 3) := by decide +kernel
theorem dL_step_574 : decode cL_step 574 = .ok (.iconst 0, 1) := by decide +kernel
theorem dL_step_575 : decode cL_step 575 = .ok (.invokevirtual 89, 3) := by decide +kernel
theorem dL_step_578 : decode cL_step 578 = .ok (.istore 20, 2) := by decide +kernel
theorem dL_step_580 : decode cL_step 580 = .ok (.aload_n 0, 1) := by decide +kernel
theorem dL_step_581 : decode cL_step 581 = .ok (.iload 4, 2) := by decide +kernel
theorem dL_step_583 : decode cL_step 583 = .ok (.iconst 5, 1) := by decide +kernel
theorem dL_step_584 : decode cL_step 584 = .ok (.irem, 1) := by decide +kernel
theorem dL_step_585 : decode cL_step 585 = .ok (.iload 5, 2) := by decide +kernel
theorem dL_step_587 : decode cL_step 587 = .ok (.iconst 2, 1) := by decide +kernel
theorem dL_step_588 : decode cL_step 588 = .ok (.irem, 1) := by decide +kernel
theorem dL_step_589 : decode cL_step 589 = .ok (.ifCond .ne 7, 3) := by decide +kernel
theorem dL_step_592 : decode cL_step 592 = .ok (.iconst 1, 1) := by decide +kernel
theorem dL_step_593 : decode cL_step 593 = .ok (.goto 4, 3) := by decide +kernel
theorem dL_step_596 : decode cL_step 596 = .ok (.iconst 0, 1) := by decide +kernel
theorem dL_step_597 : decode cL_step 597 = .ok (.invokevirtual 89, 3) := by decide +kernel
theorem dL_step_600 : decode cL_step 600 = .ok (.ifCond .ne 25, 3) := by decide +kernel
theorem dL_step_603 : decode cL_step 603 = .ok (.iload 20, 2) := by decide +kernel
theorem dL_step_605 : decode cL_step 605 = .ok (.ifCond .ne 16, 3) := by decide +kernel
theorem dL_step_608 : decode cL_step 608 = .ok (.aload_n 0, 1) := by decide +kernel
theorem dL_step_609 : decode cL_step 609 = .ok (.iload 5, 2) := by decide +kernel
theorem dL_step_611 : decode cL_step 611 = .ok (.sipush 1501, 3) := by decide +kernel
theorem dL_step_614 : decode cL_step 614 = .ok (.irem, 1) := by decide +kernel
theorem dL_step_615 : decode cL_step 615 = .ok (.invokevirtual 93, 3) := by decide +kernel
theorem dL_step_618 : decode cL_step 618 = .ok (.ifCond .lt 7, 3) := by decide +kernel
theorem dL_step_621 : decode cL_step 621 = .ok (.iconst 1, 1) := by decide +kernel
theorem dL_step_622 : decode cL_step 622 = .ok (.goto 4, 3) := by decide +kernel
theorem dL_step_625 : decode cL_step 625 = .ok (.iconst 0, 1) := by decide +kernel
theorem dL_step_626 : decode cL_step 626 = .ok (.ireturn, 1) := by decide +kernel
theorem dL_step_627 : decode cL_step 627 = .ok (.aload_n 1, 1) := by decide +kernel
theorem dL_step_628 : decode cL_step 628 = .ok (.iconst 1, 1) := by decide +kernel
theorem dL_step_629 : decode cL_step 629 = .ok (.iaload, 1) := by decide +kernel
theorem dL_step_630 : decode cL_step 630 = .ok (.ifCond .ne 15, 3) := by decide +kernel
theorem dL_step_633 : decode cL_step 633 = .ok (.aload_n 0, 1) := by decide +kernel
theorem dL_step_634 : decode cL_step 634 = .ok (.aload_n 1, 1) := by decide +kernel
theorem dL_step_635 : decode cL_step 635 = .ok (.iload 4, 2) := by decide +kernel
theorem dL_step_637 : decode cL_step 637 = .ok (.iload 5, 2) := by decide +kernel
theorem dL_step_639 : decode cL_step 639 = .ok (.invokestatic 96, 3) := by decide +kernel
theorem dL_step_642 : decode cL_step 642 = .ok (.goto 9, 3) := by decide +kernel
theorem dL_step_645 : decode cL_step 645 = .ok (.aload_n 0, 1) := by decide +kernel
theorem dL_step_646 : decode cL_step 646 = .ok (.aload_n 1, 1) := by decide +kernel
theorem dL_step_647 : decode cL_step 647 = .ok (.aload_n 2, 1) := by decide +kernel
theorem dL_step_648 : decode cL_step 648 = .ok (.invokestatic 100, 3) := by decide +kernel
theorem dL_step_651 : decode cL_step 651 = .ok (.ireturn, 1) := by decide +kernel
theorem dL_step_652 : decode cL_step 652 = .ok (.aload_n 0, 1) := by decide +kernel
theorem dL_step_653 : decode cL_step 653 = .ok (.aload_n 1, 1) := by decide +kernel
theorem dL_step_654 : decode cL_step 654 = .ok (.iload 4, 2) := by decide +kernel
theorem dL_step_656 : decode cL_step 656 = .ok (.iload 5, 2) := by decide +kernel
theorem dL_step_658 : decode cL_step 658 = .ok (.invokestatic 96, 3) := by decide +kernel
theorem dL_step_661 : decode cL_step 661 = .ok (.ireturn, 1) := by decide +kernel
theorem dL_step_662 : decode cL_step 662 = .ok (.aload_n 0, 1) := by decide +kernel
theorem dL_step_663 : decode cL_step 663 = .ok (.aload_n 1, 1) := by decide +kernel
theorem dL_step_664 : decode cL_step 664 = .ok (.iload 6, 2) := by decide +kernel
theorem dL_step_666 : decode cL_step 666 = .ok (.iload 7, 2) := by decide +kernel
theorem dL_step_668 : decode cL_step 668 = .ok (.invokestatic 104, 3) := by decide +kernel
theorem dL_step_671 : decode cL_step 671 = .ok (.ireturn, 1) := by decide +kernel
theorem dL_step_672 : decode cL_step 672 = .ok (.aload_n 0, 1) := by decide +kernel
theorem dL_step_673 : decode cL_step 673 = .ok (.iload 6, 2) := by decide +kernel
theorem dL_step_675 : decode cL_step 675 = .ok (.iload 7, 2) := by decide +kernel
theorem dL_step_677 : decode cL_step 677 = .ok (.iload 5, 2) := by decide +kernel
theorem dL_step_679 : decode cL_step 679 = .ok (.bipush 16, 2) := by decide +kernel
theorem dL_step_681 : decode cL_step 681 = .ok (.idiv, 1) := by decide +kernel
theorem dL_step_682 : decode cL_step 682 = .ok (.iconst 4, 1) := by decide +kernel
theorem dL_step_683 : decode cL_step 683 = .ok (.irem, 1) := by decide +kernel
theorem dL_step_684 : decode cL_step 684 = .ok (.ifCond .le 7, 3) := by decide +kernel
theorem dL_step_687 : decode cL_step 687 = .ok (.iconst 1, 1) := by decide +kernel
theorem dL_step_688 : decode cL_step 688 = .ok (.goto 4, 3) := by decide +kernel
theorem dL_step_691 : decode cL_step 691 = .ok (.iconst 0, 1) := by decide +kernel
theorem dL_step_692 : decode cL_step 692 = .ok (.invokestatic 107, 3) := by decide +kernel
theorem dL_step_695 : decode cL_step 695 = .ok (.ifCond .ne 15, 3) := by decide +kernel
theorem dL_step_698 : decode cL_step 698 = .ok (.aload_n 0, 1) := by decide +kernel
theorem dL_step_699 : decode cL_step 699 = .ok (.iload 6, 2) := by decide +kernel
theorem dL_step_701 : decode cL_step 701 = .ok (.iconst 0, 1) := by decide +kernel
theorem dL_step_702 : decode cL_step 702 = .ok (.invokevirtual 68, 3) := by decide +kernel
theorem dL_step_705 : decode cL_step 705 = .ok (.lconst 0, 1) := by decide +kernel
theorem dL_step_706 : decode cL_step 706 = .ok (.lcmp, 1) := by decide +kernel
theorem dL_step_707 : decode cL_step 707 = .ok (.ifCond .lt 7, 3) := by decide +kernel
theorem dL_step_710 : decode cL_step 710 = .ok (.iconst 1, 1) := by decide +kernel
theorem dL_step_711 : decode cL_step 711 = .ok (.goto 4, 3) := by decide +kernel
theorem dL_step_714 : decode cL_step 714 = .ok (.iconst 0, 1) := by decide +kernel
theorem dL_step_715 : decode cL_step 715 = .ok (.ireturn, 1) := by decide +kernel
theorem dL_step_716 : decode cL_step 716 = .ok (.aload_n 0, 1) := by decide +kernel
theorem dL_step_717 : decode cL_step 717 = .ok (.iload 7, 2) := by decide +kernel
theorem dL_step_719 : decode cL_step 719 = .ok (.iconst 0, 1) := by decide +kernel
theorem dL_step_720 : decode cL_step 720 = .ok (.iconst 2, 1) := by decide +kernel
theorem dL_step_721 : decode cL_step 721 = .ok (.invokestatic 111, 3) := by decide +kernel
theorem dL_step_724 : decode cL_step 724 = .ok (.istore 21, 2) := by decide +kernel
theorem dL_step_726 : decode cL_step 726 = .ok (.aload_n 1, 1) := by decide +kernel
theorem dL_step_727 : decode cL_step 727 = .ok (.iconst 0, 1) := by decide +kernel
theorem dL_step_728 : decode cL_step 728 = .ok (.dup2, 1) := by decide +kernel
theorem dL_step_729 : decode cL_step 729 = .ok (.iaload, 1) := by decide +kernel
theorem dL_step_730 : decode cL_step 730 = .ok (.iload 21, 2) := by decide +kernel
theorem dL_step_732 : decode cL_step 732 = .ok (.bipush (-2), 2) := by decide +kernel
theorem dL_step_734 : decode cL_step 734 = .ok (.if_icmp .ne 7, 3) := by decide +kernel
theorem dL_step_737 : decode cL_step 737 = .ok (.iconst 0, 1) := by decide +kernel
theorem dL_step_738 : decode cL_step 738 = .ok (.goto 5, 3) := by decide +kernel
theorem dL_step_741 : decode cL_step 741 = .ok (.iload 21, 2) := by decide +kernel
theorem dL_step_743 : decode cL_step 743 = .ok (.iadd, 1) := by decide +kernel
theorem dL_step_744 : decode cL_step 744 = .ok (.iastore, 1) := by decide +kernel
theorem dL_step_745 : decode cL_step 745 = .ok (.iload 21, 2) := by decide +kernel
theorem dL_step_747 : decode cL_step 747 = .ok (.bipush (-2), 2) := by decide +kernel
theorem dL_step_749 : decode cL_step 749 = .ok (.if_icmp .eq 24, 3) := by decide +kernel
theorem dL_step_752 : decode cL_step 752 = .ok (.aload_n 0, 1) := by decide +kernel
theorem dL_step_753 : decode cL_step 753 = .ok (.iload 7, 2) := by decide +kernel
theorem dL_step_755 : decode cL_step 755 = .ok (.iconst 0, 1) := by decide +kernel
theorem dL_step_756 : decode cL_step 756 = .ok (.iconst 2, 1) := by decide +kernel
theorem dL_step_757 : decode cL_step 757 = .ok (.invokestatic 111, 3) := by decide +kernel
theorem dL_step_760 : decode cL_step 760 = .ok (.ifCond .ne 17, 3) := by decide +kernel
theorem dL_step_763 : decode cL_step 763 = .ok (.aload_n 0, 1) := by decide +kernel
theorem dL_step_764 : decode cL_step 764 = .ok (.iload 7, 2) := by decide +kernel
theorem dL_step_766 : decode cL_step 766 = .ok (.iconst (-1), 1) := by decide +kernel
theorem dL_step_767 : decode cL_step 767 = .ok (.invokevirtual 115, 3) := by decide +kernel
theorem dL_step_770 : decode cL_step 770 = .ok (.ifCond .ne 7, 3) := by decide +kernel
theorem dL_step_773 : decode cL_step 773 = .ok (.iconst 1, 1) := by decide +kernel
theorem dL_step_774 : decode cL_step 774 = .ok (.goto 4, 3) := by decide +kernel
theorem dL_step_777 : decode cL_step 777 = .ok (.iconst 0, 1) := by decide +kernel
theorem dL_step_778 : decode cL_step 778 = .ok (.ireturn, 1) := by decide +kernel
theorem dL_step_779 : decode cL_step 779 = .ok (.aload_n 0, 1) := by decide +kernel
theorem dL_step_780 : decode cL_step 780 = .ok (.iconst 1, 1) := by decide +kernel
theorem dL_step_781 : decode cL_step 781 = .ok (.iload 5, 2) := by decide +kernel
theorem dL_step_783 : decode cL_step 783 = .ok (.ldc 63, 2) := by decide +kernel
theorem dL_step_785 : decode cL_step 785 = .ok (.irem, 1) := by decide +kernel
theorem dL_step_786 : decode cL_step 786 = .ok (.iadd, 1) := by decide +kernel
theorem dL_step_787 : decode cL_step 787 = .ok (.iconst 0, 1) := by decide +kernel
theorem dL_step_788 : decode cL_step 788 = .ok (.iconst 3, 1) := by decide +kernel
theorem dL_step_789 : decode cL_step 789 = .ok (.invokestatic 111, 3) := by decide +kernel
theorem dL_step_792 : decode cL_step 792 = .ok (.istore 22, 2) := by decide +kernel
theorem dL_step_794 : decode cL_step 794 = .ok (.aload_n 1, 1) := by decide +kernel
theorem dL_step_795 : decode cL_step 795 = .ok (.iconst 2, 1) := by decide +kernel
theorem dL_step_796 : decode cL_step 796 = .ok (.dup2, 1) := by decide +kernel
theorem dL_step_797 : decode cL_step 797 = .ok (.iaload, 1) := by decide +kernel
theorem dL_step_798 : decode cL_step 798 = .ok (.iload 22, 2) := by decide +kernel
theorem dL_step_800 : decode cL_step 800 = .ok (.bipush (-2), 2) := by decide +kernel
theorem dL_step_802 : decode cL_step 802 = .ok (.if_icmp .ne 7, 3) := by decide +kernel
theorem dL_step_805 : decode cL_step 805 = .ok (.iconst 0, 1) := by decide +kernel
theorem dL_step_806 : decode cL_step 806 = .ok (.goto 4, 3) := by decide +kernel
theorem dL_step_809 : decode cL_step 809 = .ok (.iconst 1, 1) := by decide +kernel
theorem dL_step_810 : decode cL_step 810 = .ok (.iadd, 1) := by decide +kernel
theorem dL_step_811 : decode cL_step 811 = .ok (.iastore, 1) := by decide +kernel
theorem dL_step_812 : decode cL_step 812 = .ok (.iload 22, 2) := by decide +kernel
theorem dL_step_814 : decode cL_step 814 = .ok (.bipush (-2), 2) := by decide +kernel
theorem dL_step_816 : decode cL_step 816 = .ok (.if_icmp .ne 19, 3) := by decide +kernel
theorem dL_step_819 : decode cL_step 819 = .ok (.aload_n 1, 1) := by decide +kernel
theorem dL_step_820 : decode cL_step 820 = .ok (.iconst 2, 1) := by decide +kernel
theorem dL_step_821 : decode cL_step 821 = .ok (.iaload, 1) := by decide +kernel
theorem dL_step_822 : decode cL_step 822 = .ok (.bipush 10, 2) := by decide +kernel
theorem dL_step_824 : decode cL_step 824 = .ok (.if_icmp .ne 7, 3) := by decide +kernel
theorem dL_step_827 : decode cL_step 827 = .ok (.iconst 1, 1) := by decide +kernel
theorem dL_step_828 : decode cL_step 828 = .ok (.goto 22, 3) := by decide +kernel
theorem dL_step_831 : decode cL_step 831 = .ok (.iconst 0, 1) := by decide +kernel
theorem dL_step_832 : decode cL_step 832 = .ok (.goto 18, 3) := by decide +kernel
theorem dL_step_835 : decode cL_step 835 = .ok (.iload 22, 2) := by decide +kernel
theorem dL_step_837 : decode cL_step 837 = .ok (.aload_n 1, 1) := by decide +kernel
theorem dL_step_838 : decode cL_step 838 = .ok (.iconst 2, 1) := by decide +kernel
theorem dL_step_839 : decode cL_step 839 = .ok (.iaload, 1) := by decide +kernel
theorem dL_step_840 : decode cL_step 840 = .ok (.iconst 1, 1) := by decide +kernel
theorem dL_step_841 : decode cL_step 841 = .ok (.isub, 1) := by decide +kernel
theorem dL_step_842 : decode cL_step 842 = .ok (.if_icmp .ne 7, 3) := by decide +kernel
theorem dL_step_845 : decode cL_step 845 = .ok (.iconst 1, 1) := by decide +kernel
theorem dL_step_846 : decode cL_step 846 = .ok (.goto 4, 3) := by decide +kernel
theorem dL_step_849 : decode cL_step 849 = .ok (.iconst 0, 1) := by decide +kernel
theorem dL_step_850 : decode cL_step 850 = .ok (.ireturn, 1) := by decide +kernel
theorem dL_step_851 : decode cL_step 851 = .ok (.aload_n 0, 1) := by decide +kernel
theorem dL_step_852 : decode cL_step 852 = .ok (.iload 6, 2) := by decide +kernel
theorem dL_step_854 : decode cL_step 854 = .ok (.bipush 6, 2) := by decide +kernel
theorem dL_step_856 : decode cL_step 856 = .ok (.invokevirtual 68, 3) := by decide +kernel
theorem dL_step_859 : decode cL_step 859 = .ok (.lstore 23, 2) := by decide +kernel
theorem dL_step_861 : decode cL_step 861 = .ok (.aload_n 0, 1) := by decide +kernel
theorem dL_step_862 : decode cL_step 862 = .ok (.iload 6, 2) := by decide +kernel
theorem dL_step_864 : decode cL_step 864 = .ok (.iconst 0, 1) := by decide +kernel
theorem dL_step_865 : decode cL_step 865 = .ok (.invokevirtual 68, 3) := by decide +kernel
theorem dL_step_868 : decode cL_step 868 = .ok (.lconst 0, 1) := by decide +kernel
theorem dL_step_869 : decode cL_step 869 = .ok (.lcmp, 1) := by decide +kernel
theorem dL_step_870 : decode cL_step 870 = .ok (.ifCond .ne 26, 3) := by decide +kernel
theorem dL_step_873 : decode cL_step 873 = .ok (.aload_n 0, 1) := by decide +kernel
theorem dL_step_874 : decode cL_step 874 = .ok (.iload 6, 2) := by decide +kernel
theorem dL_step_876 : decode cL_step 876 = .ok (.iconst 2, 1) := by decide +kernel
theorem dL_step_877 : decode cL_step 877 = .ok (.invokevirtual 68, 3) := by decide +kernel
theorem dL_step_880 : decode cL_step 880 = .ok (.lconst 0, 1) := by decide +kernel
theorem dL_step_881 : decode cL_step 881 = .ok (.lcmp, 1) := by decide +kernel
theorem dL_step_882 : decode cL_step 882 = .ok (.ifCond .le 14, 3) := by decide +kernel
theorem dL_step_885 : decode cL_step 885 = .ok (.lload 23, 2) := by decide +kernel
theorem dL_step_887 : decode cL_step 887 = .ok (.lconst 0, 1) := by decide +kernel
theorem dL_step_888 : decode cL_step 888 = .ok (.lcmp, 1) := by decide +kernel
theorem dL_step_889 : decode cL_step 889 = .ok (.ifCond .ne 7, 3) := by decide +kernel
theorem dL_step_892 : decode cL_step 892 = .ok (.iconst 1, 1) := by decide +kernel
theorem dL_step_893 : decode cL_step 893 = .ok (.goto 4, 3) := by decide +kernel
theorem dL_step_896 : decode cL_step 896 = .ok (.iconst 0, 1) := by decide +kernel
theorem dL_step_897 : decode cL_step 897 = .ok (.istore 25, 2) := by decide +kernel
theorem dL_step_899 : decode cL_step 899 = .ok (.aload_n 0, 1) := by decide +kernel
theorem dL_step_900 : decode cL_step 900 = .ok (.iload 6, 2) := by decide +kernel
theorem dL_step_902 : decode cL_step 902 = .ok (.invokestatic 119, 3) := by decide +kernel
theorem dL_step_905 : decode cL_step 905 = .ok (.iload 25, 2) := by decide +kernel
theorem dL_step_907 : decode cL_step 907 = .ok (.if_icmp .ne 30, 3) := by decide +kernel
theorem dL_step_910 : decode cL_step 910 = .ok (.aload_n 0, 1) := by decide +kernel
theorem dL_step_911 : decode cL_step 911 = .ok (.iload 6, 2) := by decide +kernel
theorem dL_step_913 : decode cL_step 913 = .ok (.bipush 6, 2) := by decide +kernel
theorem dL_step_915 : decode cL_step 915 = .ok (.invokevirtual 68, 3) := by decide +kernel
theorem dL_step_918 : decode cL_step 918 = .ok (.iload 25, 2) := by decide +kernel
theorem dL_step_920 : decode cL_step 920 = .ok (.ifCond .eq 7, 3) := by decide +kernel
theorem dL_step_923 : decode cL_step 923 = .ok (.lconst 1, 1) := by decide +kernel
theorem dL_step_924 : decode cL_step 924 = .ok (.goto 5, 3) := by decide +kernel
theorem dL_step_927 : decode cL_step 927 = .ok (.lload 23, 2) := by decide +kernel
theorem dL_step_929 : decode cL_step 929 = .ok (.lcmp, 1) := by decide +kernel
theorem dL_step_930 : decode cL_step 930 = .ok (.ifCond .ne 7, 3) := by decide +kernel
theorem dL_step_933 : decode cL_step 933 = .ok (.iconst 1, 1) := by decide +kernel
theorem dL_step_934 : decode cL_step 934 = .ok (.goto 4, 3) := by decide +kernel
theorem dL_step_937 : decode cL_step 937 = .ok (.iconst 0, 1) := by decide +kernel
theorem dL_step_938 : decode cL_step 938 = .ok (.ireturn, 1) := by decide +kernel
theorem dL_step_939 : decode cL_step 939 = .ok (.aload_n 1, 1) := by decide +kernel
theorem dL_step_940 : decode cL_step 940 = .ok (.iconst 2, 1) := by decide +kernel
theorem dL_step_941 : decode cL_step 941 = .ok (.iaload, 1) := by decide +kernel
theorem dL_step_942 : decode cL_step 942 = .ok (.ifCond .eq 21, 3) := by decide +kernel
theorem dL_step_945 : decode cL_step 945 = .ok (.aload_n 0, 1) := by decide +kernel
theorem dL_step_946 : decode cL_step 946 = .ok (.aload_n 2, 1) := by decide +kernel
theorem dL_step_947 : decode cL_step 947 = .ok (.iload 6, 2) := by decide +kernel
theorem dL_step_949 : decode cL_step 949 = .ok (.iload 5, 2) := by decide +kernel
theorem dL_step_951 : decode cL_step 951 = .ok (.aload_n 1, 1) := by decide +kernel
theorem dL_step_952 : decode cL_step 952 = .ok (.iconst 2, 1) := by decide +kernel
theorem dL_step_953 : decode cL_step 953 = .ok (.iaload, 1) := by decide +kernel
theorem dL_step_954 : decode cL_step 954 = .ok (.irem, 1) := by decide +kernel
theorem dL_step_955 : decode cL_step 955 = .ok (.iload 5, 2) := by decide +kernel
theorem dL_step_957 : decode cL_step 957 = .ok (.invokestatic 123, 3) := by decide +kernel
theorem dL_step_960 : decode cL_step 960 = .ok (.ifCond .eq 7, 3) := by decide +kernel
theorem dL_step_963 : decode cL_step 963 = .ok (.iconst 1, 1) := by decide +kernel
theorem dL_step_964 : decode cL_step 964 = .ok (.goto 4, 3) := by decide +kernel
theorem dL_step_967 : decode cL_step 967 = .ok (.iconst 0, 1) := by decide +kernel
theorem dL_step_968 : decode cL_step 968 = .ok (.ireturn, 1) := by decide +kernel
theorem dL_step_969 : decode cL_step 969 = .ok (.aload_n 1, 1) := by decide +kernel
theorem dL_step_970 : decode cL_step 970 = .ok (.iconst 4, 1) := by decide +kernel
theorem dL_step_971 : decode cL_step 971 = .ok (.iconst 1, 1) := by decide +kernel
theorem dL_step_972 : decode cL_step 972 = .ok (.iload 5, 2) := by decide +kernel
theorem dL_step_974 : decode cL_step 974 = .ok (.ldc 63, 2) := by decide +kernel
theorem dL_step_976 : decode cL_step 976 = .ok (.irem, 1) := by decide +kernel
theorem dL_step_977 : decode cL_step 977 = .ok (.iadd, 1) := by decide +kernel
theorem dL_step_978 : decode cL_step 978 = .ok (.iastore, 1) := by decide +kernel
theorem dL_step_979 : decode cL_step 979 = .ok (.aload_n 0, 1) := by decide +kernel
theorem dL_step_980 : decode cL_step 980 = .ok (.aload_n 1, 1) := by decide +kernel
theorem dL_step_981 : decode cL_step 981 = .ok (.iconst 4, 1) := by decide +kernel
theorem dL_step_982 : decode cL_step 982 = .ok (.iaload, 1) := by decide +kernel
theorem dL_step_983 : decode cL_step 983 = .ok (.iload 4, 2) := by decide +kernel
theorem dL_step_985 : decode cL_step 985 = .ok (.sipush 401, 3) := by decide +kernel
theorem dL_step_988 : decode cL_step 988 = .ok (.irem, 1) := by decide +kernel
theorem dL_step_989 : decode cL_step 989 = .ok (.sipush 200, 3) := by decide +kernel
theorem dL_step_992 : decode cL_step 992 = .ok (.isub, 1) := by decide +kernel
theorem dL_step_993 : decode cL_step 993 = .ok (.iconst 1, 1) := by decide +kernel
theorem dL_step_994 : decode cL_step 994 = .ok (.iload 4, 2) := by decide +kernel
theorem dL_step_996 : decode cL_step 996 = .ok (.bipush 10, 2) := by decide +kernel
theorem dL_step_998 : decode cL_step 998 = .ok (.irem, 1) := by decide +kernel
theorem dL_step_999 : decode cL_step 999 = .ok (.iadd, 1) := by decide +kernel
theorem dL_step_1000 : decode cL_step 1000 = .ok (.invokevirtual 127, 3) := by decide +kernel
theorem dL_step_1003 : decode cL_step 1003 = .ok (.aload_n 0, 1) := by decide +kernel
theorem dL_step_1004 : decode cL_step 1004 = .ok (.iconst 4, 1) := by decide +kernel
theorem dL_step_1005 : decode cL_step 1005 = .ok (.invokevirtual 73, 3) := by decide +kernel
theorem dL_step_1008 : decode cL_step 1008 = .ok (.iconst 1, 1) := by decide +kernel
theorem dL_step_1009 : decode cL_step 1009 = .ok (.iload 4, 2) := by decide +kernel
theorem dL_step_1011 : decode cL_step 1011 = .ok (.bipush 10, 2) := by decide +kernel
theorem dL_step_1013 : decode cL_step 1013 = .ok (.irem, 1) := by decide +kernel
theorem dL_step_1014 : decode cL_step 1014 = .ok (.iadd, 1) := by decide +kernel
theorem dL_step_1015 : decode cL_step 1015 = .ok (.i2l, 1) := by decide +kernel
theorem dL_step_1016 : decode cL_step 1016 = .ok (.lcmp, 1) := by decide +kernel
theorem dL_step_1017 : decode cL_step 1017 = .ok (.ifCond .ne 7, 3) := by decide +kernel
theorem dL_step_1020 : decode cL_step 1020 = .ok (.iconst 1, 1) := by decide +kernel
theorem dL_step_1021 : decode cL_step 1021 = .ok (.goto 4, 3) := by decide +kernel
theorem dL_step_1024 : decode cL_step 1024 = .ok (.iconst 0, 1) := by decide +kernel
theorem dL_step_1025 : decode cL_step 1025 = .ok (.ireturn, 1) := by decide +kernel
theorem dL_step_1026 : decode cL_step 1026 = .ok (.aload_n 0, 1) := by decide +kernel
theorem dL_step_1027 : decode cL_step 1027 = .ok (.iload 4, 2) := by decide +kernel
theorem dL_step_1029 : decode cL_step 1029 = .ok (.bipush 8, 2) := by decide +kernel
theorem dL_step_1031 : decode cL_step 1031 = .ok (.irem, 1) := by decide +kernel
theorem dL_step_1032 : decode cL_step 1032 = .ok (.iload 5, 2) := by decide +kernel
theorem dL_step_1034 : decode cL_step 1034 = .ok (.iconst 3, 1) := by decide +kernel
theorem dL_step_1035 : decode cL_step 1035 = .ok (.irem, 1) := by decide +kernel
theorem dL_step_1036 : decode cL_step 1036 = .ok (.ifCond .le 7, 3) := by decide +kernel
theorem dL_step_1039 : decode cL_step 1039 = .ok (.iconst 1, 1) := by decide +kernel
theorem dL_step_1040 : decode cL_step 1040 = .ok (.goto 4, 3) := by decide +kernel
theorem dL_step_1043 : decode cL_step 1043 = .ok (.iconst 0, 1) := by decide +kernel
theorem dL_step_1044 : decode cL_step 1044 = .ok (.invokevirtual 131, 3) := by decide +kernel
theorem dL_step_1047 : decode cL_step 1047 = .ok (.istore 26, 2) := by decide +kernel
theorem dL_step_1049 : decode cL_step 1049 = .ok (.aload_n 0, 1) := by decide +kernel
theorem dL_step_1050 : decode cL_step 1050 = .ok (.iload 4, 2) := by decide +kernel
theorem dL_step_1052 : decode cL_step 1052 = .ok (.bipush 8, 2) := by decide +kernel
theorem dL_step_1054 : decode cL_step 1054 = .ok (.irem, 1) := by decide +kernel
theorem dL_step_1055 : decode cL_step 1055 = .ok (.iload 5, 2) := by decide +kernel
theorem dL_step_1057 : decode cL_step 1057 = .ok (.iconst 3, 1) := by decide +kernel
theorem dL_step_1058 : decode cL_step 1058 = .ok (.irem, 1) := by decide +kernel
theorem dL_step_1059 : decode cL_step 1059 = .ok (.ifCond .le 7, 3) := by decide +kernel
theorem dL_step_1062 : decode cL_step 1062 = .ok (.iconst 1, 1) := by decide +kernel
theorem dL_step_1063 : decode cL_step 1063 = .ok (.goto 4, 3) := by decide +kernel
theorem dL_step_1066 : decode cL_step 1066 = .ok (.iconst 0, 1) := by decide +kernel
theorem dL_step_1067 : decode cL_step 1067 = .ok (.invokevirtual 131, 3) := by decide +kernel
theorem dL_step_1070 : decode cL_step 1070 = .ok (.ifCond .ne 35, 3) := by decide +kernel
theorem dL_step_1073 : decode cL_step 1073 = .ok (.aload_n 0, 1) := by decide +kernel
theorem dL_step_1074 : decode cL_step 1074 = .ok (.aload_n 1, 1) := by decide +kernel
theorem dL_step_1075 : decode cL_step 1075 = .ok (.aload_n 2, 1) := by decide +kernel
theorem dL_step_1076 : decode cL_step 1076 = .ok (.invokestatic 134, 3) := by decide +kernel
theorem dL_step_1079 : decode cL_step 1079 = .ok (.ifCond .eq 26, 3) := by decide +kernel
theorem dL_step_1082 : decode cL_step 1082 = .ok (.iload 26, 2) := by decide +kernel
theorem dL_step_1084 : decode cL_step 1084 = .ok (.ifCond .ne 17, 3) := by decide +kernel
theorem dL_step_1087 : decode cL_step 1087 = .ok (.aload_n 0, 1) := by decide +kernel
theorem dL_step_1088 : decode cL_step 1088 = .ok (.iload 4, 2) := by decide +kernel
theorem dL_step_1090 : decode cL_step 1090 = .ok (.iconst 5, 1) := by decide +kernel
theorem dL_step_1091 : decode cL_step 1091 = .ok (.irem, 1) := by decide +kernel
theorem dL_step_1092 : decode cL_step 1092 = .ok (.invokevirtual 137, 3) := by decide +kernel
theorem dL_step_1095 : decode cL_step 1095 = .ok (.sipush 10000, 3) := by decide +kernel
theorem dL_step_1098 : decode cL_step 1098 = .ok (.if_icmp .gt 7, 3) := by decide +kernel
theorem dL_step_1101 : decode cL_step 1101 = .ok (.iconst 1, 1) := by decide +kernel
theorem dL_step_1102 : decode cL_step 1102 = .ok (.goto 4, 3) := by decide +kernel
theorem dL_step_1105 : decode cL_step 1105 = .ok (.iconst 0, 1) := by decide +kernel
theorem dL_step_1106 : decode cL_step 1106 = .ok (.ireturn, 1) := by decide +kernel
theorem dL_isOffered_0 : decode cL_isOffered 0 = .ok (.aload_n 0, 1) := by decide +kernel
theorem dL_isOffered_1 : decode cL_isOffered 1 = .ok (.iload_n 2, 1) := by decide +kernel
theorem dL_isOffered_2 : decode cL_isOffered 2 = .ok (.iload_n 3, 1) := by decide +kernel
theorem dL_isOffered_3 : decode cL_isOffered 3 = .ok (.iconst 0, 1) := by decide +kernel
theorem dL_isOffered_4 : decode cL_isOffered 4 = .ok (.invokestatic 111, 3) := by decide +kernel
theorem dL_isOffered_7 : decode cL_isOffered 7 = .ok (.istore 4, 2) := by decide +kernel
theorem dL_isOffered_9 : decode cL_isOffered 9 = .ok (.aload_n 1, 1) := by decide +kernel
theorem dL_isOffered_10 : decode cL_isOffered 10 = .ok (.iconst 1, 1) := by decide +kernel
theorem dL_isOffered_11 : decode cL_isOffered 11 = .ok (.dup2, 1) := by decide +kernel
theorem dL_isOffered_12 : decode cL_isOffered 12 = .ok (.iaload, 1) := by decide +kernel
theorem dL_isOffered_13 : decode cL_isOffered 13 = .ok (.iload 4, 2) := by decide +kernel
theorem dL_isOffered_15 : decode cL_isOffered 15 = .ok (.bipush (-2), 2) := by decide +kernel
theorem dL_isOffered_17 : decode cL_isOffered 17 = .ok (.if_icmp .ne 7, 3) := by decide +kernel
theorem dL_isOffered_20 : decode cL_isOffered 20 = .ok (.iconst 0, 1) := by decide +kernel
theorem dL_isOffered_21 : decode cL_isOffered 21 = .ok (.goto 4, 3) := by decide +kernel
theorem dL_isOffered_24 : decode cL_isOffered 24 = .ok (.iconst 1, 1) := by decide +kernel
theorem dL_isOffered_25 : decode cL_isOffered 25 = .ok (.iadd, 1) := by decide +kernel
theorem dL_isOffered_26 : decode cL_isOffered 26 = .ok (.iastore, 1) := by decide +kernel
theorem dL_isOffered_27 : decode cL_isOffered 27 = .ok (.iload 4, 2) := by decide +kernel
theorem dL_isOffered_29 : decode cL_isOffered 29 = .ok (.bipush (-2), 2) := by decide +kernel
theorem dL_isOffered_31 : decode cL_isOffered 31 = .ok (.if_icmp .ne 19, 3) := by decide +kernel
theorem dL_isOffered_34 : decode cL_isOffered 34 = .ok (.aload_n 1, 1) := by decide +kernel
theorem dL_isOffered_35 : decode cL_isOffered 35 = .ok (.iconst 1, 1) := by decide +kernel
theorem dL_isOffered_36 : decode cL_isOffered 36 = .ok (.iaload, 1) := by decide +kernel
theorem dL_isOffered_37 : decode cL_isOffered 37 = .ok (.bipush 12, 2) := by decide +kernel
theorem dL_isOffered_39 : decode cL_isOffered 39 = .ok (.if_icmp .ne 7, 3) := by decide +kernel
theorem dL_isOffered_42 : decode cL_isOffered 42 = .ok (.iconst 1, 1) := by decide +kernel
theorem dL_isOffered_43 : decode cL_isOffered 43 = .ok (.goto 32, 3) := by decide +kernel
theorem dL_isOffered_46 : decode cL_isOffered 46 = .ok (.iconst 0, 1) := by decide +kernel
theorem dL_isOffered_47 : decode cL_isOffered 47 = .ok (.goto 28, 3) := by decide +kernel
theorem dL_isOffered_50 : decode cL_isOffered 50 = .ok (.iload 4, 2) := by decide +kernel
theorem dL_isOffered_52 : decode cL_isOffered 52 = .ok (.aload_n 1, 1) := by decide +kernel
theorem dL_isOffered_53 : decode cL_isOffered 53 = .ok (.iconst 1, 1) := by decide +kernel
theorem dL_isOffered_54 : decode cL_isOffered 54 = .ok (.iaload, 1) := by decide +kernel
theorem dL_isOffered_55 : decode cL_isOffered 55 = .ok (.iconst 1, 1) := by decide +kernel
theorem dL_isOffered_56 : decode cL_isOffered 56 = .ok (.isub, 1) := by decide +kernel
theorem dL_isOffered_57 : decode cL_isOffered 57 = .ok (.if_icmp .ne 17, 3) := by decide +kernel
theorem dL_isOffered_60 : decode cL_isOffered 60 = .ok (.aload_n 0, 1) := by decide +kernel
theorem dL_isOffered_61 : decode cL_isOffered 61 = .ok (.iload 4, 2) := by decide +kernel
theorem dL_isOffered_63 : decode cL_isOffered 63 = .ok (.iconst (-1), 1) := by decide +kernel
theorem dL_isOffered_64 : decode cL_isOffered 64 = .ok (.invokevirtual 115, 3) := by decide +kernel
theorem dL_isOffered_67 : decode cL_isOffered 67 = .ok (.ifCond .ne 7, 3) := by decide +kernel
theorem dL_isOffered_70 : decode cL_isOffered 70 = .ok (.iconst 1, 1) := by decide +kernel
theorem dL_isOffered_71 : decode cL_isOffered 71 = .ok (.goto 4, 3) := by decide +kernel
theorem dL_isOffered_74 : decode cL_isOffered 74 = .ok (.iconst 0, 1) := by decide +kernel
theorem dL_isOffered_75 : decode cL_isOffered 75 = .ok (.ireturn, 1) := by decide +kernel
theorem dL_isYear_0 : decode cL_isYear 0 = .ok (.aload_n 0, 1) := by decide +kernel
theorem dL_isYear_1 : decode cL_isYear 1 = .ok (.iconst 2, 1) := by decide +kernel
theorem dL_isYear_2 : decode cL_isYear 2 = .ok (.invokevirtual 73, 3) := by decide +kernel
theorem dL_isYear_5 : decode cL_isYear 5 = .ok (.aload_n 1, 1) := by decide +kernel
theorem dL_isYear_6 : decode cL_isYear 6 = .ok (.iconst 3, 1) := by decide +kernel
theorem dL_isYear_7 : decode cL_isYear 7 = .ok (.iaload, 1) := by decide +kernel
theorem dL_isYear_8 : decode cL_isYear 8 = .ok (.i2l, 1) := by decide +kernel
theorem dL_isYear_9 : decode cL_isYear 9 = .ok (.lmul, 1) := by decide +kernel
theorem dL_isYear_10 : decode cL_isYear 10 = .ok (.ldc2_w 140, 3) := by decide +kernel
theorem dL_isYear_13 : decode cL_isYear 13 = .ok (.invokestatic 142, 3) := by decide +kernel
theorem dL_isYear_16 : decode cL_isYear 16 = .ok (.lstore_n 3, 1) := by decide +kernel
theorem dL_isYear_17 : decode cL_isYear 17 = .ok (.lconst 0, 1) := by decide +kernel
theorem dL_isYear_18 : decode cL_isYear 18 = .ok (.lstore 5, 2) := by decide +kernel
theorem dL_isYear_20 : decode cL_isYear 20 = .ok (.aload_n 0, 1) := by decide +kernel
theorem dL_isYear_21 : decode cL_isYear 21 = .ok (.iconst 0, 1) := by decide +kernel
theorem dL_isYear_22 : decode cL_isYear 22 = .ok (.invokevirtual 73, 3) := by decide +kernel
theorem dL_isYear_25 : decode cL_isYear 25 = .ok (.lstore 7, 2) := by decide +kernel
theorem dL_isYear_27 : decode cL_isYear 27 = .ok (.iconst 0, 1) := by decide +kernel
theorem dL_isYear_28 : decode cL_isYear 28 = .ok (.istore 9, 2) := by decide +kernel
theorem dL_isYear_30 : decode cL_isYear 30 = .ok (.iload 9, 2) := by decide +kernel
theorem dL_isYear_32 : decode cL_isYear 32 = .ok (.aload_n 1, 1) := by decide +kernel
theorem dL_isYear_33 : decode cL_isYear 33 = .ok (.iconst 0, 1) := by decide +kernel
theorem dL_isYear_34 : decode cL_isYear 34 = .ok (.iaload, 1) := by decide +kernel
theorem dL_isYear_35 : decode cL_isYear 35 = .ok (.if_icmp .ge 21, 3) := by decide +kernel
theorem dL_isYear_38 : decode cL_isYear 38 = .ok (.lload 5, 2) := by decide +kernel
theorem dL_isYear_40 : decode cL_isYear 40 = .ok (.aload_n 0, 1) := by decide +kernel
theorem dL_isYear_41 : decode cL_isYear 41 = .ok (.iload 9, 2) := by decide +kernel
theorem dL_isYear_43 : decode cL_isYear 43 = .ok (.iconst 4, 1) := by decide +kernel
theorem dL_isYear_44 : decode cL_isYear 44 = .ok (.invokevirtual 68, 3) := by decide +kernel
theorem dL_isYear_47 : decode cL_isYear 47 = .ok (.ladd, 1) := by decide +kernel
theorem dL_isYear_48 : decode cL_isYear 48 = .ok (.lstore 5, 2) := by decide +kernel
theorem dL_isYear_50 : decode cL_isYear 50 = .ok (.iinc 9 1, 3) := by decide +kernel
theorem dL_isYear_53 : decode cL_isYear 53 = .ok (.goto (-23), 3) := by decide +kernel
theorem dL_isYear_56 : decode cL_isYear 56 = .ok (.aload_n 0, 1) := by decide +kernel
theorem dL_isYear_57 : decode cL_isYear 57 = .ok (.invokestatic 146, 3) := by decide +kernel
theorem dL_isYear_60 : decode cL_isYear 60 = .ok (.lstore 9, 2) := by decide +kernel
theorem dL_isYear_62 : decode cL_isYear 62 = .ok (.lload 9, 2) := by decide +kernel
theorem dL_isYear_64 : decode cL_isYear 64 = .ok (.ldc2_w 24, 3) := by decide +kernel
theorem dL_isYear_67 : decode cL_isYear 67 = .ok (.lcmp, 1) := by decide +kernel
theorem dL_isYear_68 : decode cL_isYear 68 = .ok (.ifCond .ne 30, 3) := by decide +kernel
theorem dL_isYear_71 : decode cL_isYear 71 = .ok (.lload 7, 2) := by decide +kernel
theorem dL_isYear_73 : decode cL_isYear 73 = .ok (.ldc2_w 150, 3) := by decide +kernel
theorem dL_isYear_76 : decode cL_isYear 76 = .ok (.lcmp, 1) := by decide +kernel
theorem dL_isYear_77 : decode cL_isYear 77 = .ok (.ifCond .ne 19, 3) := by decide +kernel
theorem dL_isYear_80 : decode cL_isYear 80 = .ok (.aload_n 0, 1) := by decide +kernel
theorem dL_isYear_81 : decode cL_isYear 81 = .ok (.iconst 0, 1) := by decide +kernel
theorem dL_isYear_82 : decode cL_isYear 82 = .ok (.invokevirtual 73, 3) := by decide +kernel
theorem dL_isYear_85 : decode cL_isYear 85 = .ok (.ldc2_w 150, 3) := by decide +kernel
theorem dL_isYear_88 : decode cL_isYear 88 = .ok (.lcmp, 1) := by decide +kernel
theorem dL_isYear_89 : decode cL_isYear 89 = .ok (.ifCond .ne 7, 3) := by decide +kernel
theorem dL_isYear_92 : decode cL_isYear 92 = .ok (.iconst 1, 1) := by decide +kernel
theorem dL_isYear_93 : decode cL_isYear 93 = .ok (.goto 4, 3) := by decide +kernel
theorem dL_isYear_96 : decode cL_isYear 96 = .ok (.iconst 0, 1) := by decide +kernel
theorem dL_isYear_97 : decode cL_isYear 97 = .ok (.ireturn, 1) := by decide +kernel
theorem dL_isYear_98 : decode cL_isYear 98 = .ok (.aload_n 2, 1) := by decide +kernel
theorem dL_isYear_99 : decode cL_isYear 99 = .ok (.iconst 0, 1) := by decide +kernel
theorem dL_isYear_100 : decode cL_isYear 100 = .ok (.dup2, 1) := by decide +kernel
theorem dL_isYear_101 : decode cL_isYear 101 = .ok (.laload, 1) := by decide +kernel
theorem dL_isYear_102 : decode cL_isYear 102 = .ok (.lload_n 3, 1) := by decide +kernel
theorem dL_isYear_103 : decode cL_isYear 103 = .ok (.ladd, 1) := by decide +kernel
theorem dL_isYear_104 : decode cL_isYear 104 = .ok (.lastore, 1) := by decide +kernel
theorem dL_isYear_105 : decode cL_isYear 105 = .ok (.aload_n 0, 1) := by decide +kernel
theorem dL_isYear_106 : decode cL_isYear 106 = .ok (.iconst 0, 1) := by decide +kernel
theorem dL_isYear_107 : decode cL_isYear 107 = .ok (.invokevirtual 73, 3) := by decide +kernel
theorem dL_isYear_110 : decode cL_isYear 110 = .ok (.lload 7, 2) := by decide +kernel
theorem dL_isYear_112 : decode cL_isYear 112 = .ok (.lconst 1, 1) := by decide +kernel
theorem dL_isYear_113 : decode cL_isYear 113 = .ok (.ladd, 1) := by decide +kernel
theorem dL_isYear_114 : decode cL_isYear 114 = .ok (.lcmp, 1) := by decide +kernel
theorem dL_isYear_115 : decode cL_isYear 115 = .ok (.ifCond .ne 14, 3) := by decide +kernel
theorem dL_isYear_118 : decode cL_isYear 118 = .ok (.lload 9, 2) := by decide +kernel
theorem dL_isYear_120 : decode cL_isYear 120 = .ok (.lconst 0, 1) := by decide +kernel
theorem dL_isYear_121 : decode cL_isYear 121 = .ok (.lcmp, 1) := by decide +kernel
theorem dL_isYear_122 : decode cL_isYear 122 = .ok (.ifCond .lt 7, 3) := by decide +kernel
theorem dL_isYear_125 : decode cL_isYear 125 = .ok (.iconst 1, 1) := by decide +kernel
theorem dL_isYear_126 : decode cL_isYear 126 = .ok (.goto 4, 3) := by decide +kernel
theorem dL_isYear_129 : decode cL_isYear 129 = .ok (.iconst 0, 1) := by decide +kernel
theorem dL_isYear_130 : decode cL_isYear 130 = .ok (.istore 11, 2) := by decide +kernel
theorem dL_isYear_132 : decode cL_isYear 132 = .ok (.iconst 0, 1) := by decide +kernel
theorem dL_isYear_133 : decode cL_isYear 133 = .ok (.istore 12, 2) := by decide +kernel
theorem dL_isYear_135 : decode cL_isYear 135 = .ok (.iload 12, 2) := by decide +kernel
theorem dL_isYear_137 : decode cL_isYear 137 = .ok (.aload_n 1, 1) := by decide +kernel
theorem dL_isYear_138 : decode cL_isYear 138 = .ok (.iconst 0, 1) := by decide +kernel
theorem dL_isYear_139 : decode cL_isYear 139 = .ok (.iaload, 1) := by decide +kernel
theorem dL_isYear_140 : decode cL_isYear 140 = .ok (.if_icmp .ge 58, 3) := by decide +kernel
theorem dL_isYear_143 : decode cL_isYear 143 = .ok (.iload 11, 2) := by decide +kernel
theorem dL_isYear_145 : decode cL_isYear 145 = .ok (.ifCond .eq 53, 3) := by decide +kernel
theorem dL_isYear_148 : decode cL_isYear 148 = .ok (.lload 5, 2) := by decide +kernel
theorem dL_isYear_150 : decode cL_isYear 150 = .ok (.aload_n 0, 1) := by decide +kernel
theorem dL_isYear_151 : decode cL_isYear 151 = .ok (.iload 12, 2) := by decide +kernel
theorem dL_isYear_153 : decode cL_isYear 153 = .ok (.iconst 4, 1) := by decide +kernel
theorem dL_isYear_154 : decode cL_isYear 154 = .ok (.invokevirtual 68, 3) := by decide +kernel
theorem dL_isYear_157 : decode cL_isYear 157 = .ok (.lsub, 1) := by decide +kernel
theorem dL_isYear_158 : decode cL_isYear 158 = .ok (.lstore 5, 2) := by decide +kernel
theorem dL_isYear_160 : decode cL_isYear 160 = .ok (.aload_n 0, 1) := by decide +kernel
theorem dL_isYear_161 : decode cL_isYear 161 = .ok (.iload 12, 2) := by decide +kernel
theorem dL_isYear_163 : decode cL_isYear 163 = .ok (.bipush 6, 2) := by decide +kernel
theorem dL_isYear_165 : decode cL_isYear 165 = .ok (.invokevirtual 68, 3) := by decide +kernel
theorem dL_isYear_168 : decode cL_isYear 168 = .ok (.lconst 1, 1) := by decide +kernel
theorem dL_isYear_169 : decode cL_isYear 169 = .ok (.lcmp, 1) := by decide +kernel
theorem dL_isYear_170 : decode cL_isYear 170 = .ok (.ifCond .ne 15, 3) := by decide +kernel
theorem dL_isYear_173 : decode cL_isYear 173 = .ok (.aload_n 0, 1) := by decide +kernel
theorem dL_isYear_174 : decode cL_isYear 174 = .ok (.iload 12, 2) := by decide +kernel
theorem dL_isYear_176 : decode cL_isYear 176 = .ok (.iconst 0, 1) := by decide +kernel
theorem dL_isYear_177 : decode cL_isYear 177 = .ok (.invokevirtual 68, 3) := by decide +kernel
theorem dL_isYear_180 : decode cL_isYear 180 = .ok (.lconst 0, 1) := by decide +kernel
theorem dL_isYear_181 : decode cL_isYear 181 = .ok (.lcmp, 1) := by decide +kernel
theorem dL_isYear_182 : decode cL_isYear 182 = .ok (.ifCond .le 7, 3) := by decide +kernel
theorem dL_isYear_185 : decode cL_isYear 185 = .ok (.iconst 1, 1) := by decide +kernel
theorem dL_isYear_186 : decode cL_isYear 186 = .ok (.goto 4, 3) := by decide +kernel
theorem dL_isYear_189 : decode cL_isYear 189 = .ok (.iconst 0, 1) := by decide +kernel
theorem dL_isYear_190 : decode cL_isYear 190 = .ok (.istore 11, 2) := by decide +kernel
theorem dL_isYear_192 : decode cL_isYear 192 = .ok (.iinc 12 1, 3) := by decide +kernel
theorem dL_isYear_195 : decode cL_isYear 195 = .ok (.goto (-60), 3) := by decide +kernel
theorem dL_isYear_198 : decode cL_isYear 198 = .ok (.iload 11, 2) := by decide +kernel
theorem dL_isYear_200 : decode cL_isYear 200 = .ok (.ifCond .eq 16, 3) := by decide +kernel
theorem dL_isYear_203 : decode cL_isYear 203 = .ok (.lload 5, 2) := by decide +kernel
