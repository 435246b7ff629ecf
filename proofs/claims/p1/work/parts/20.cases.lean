theorem dL_law_232 : decode cL_law 232 = .ok (.aload_n 1, 1) := by decide +kernel
theorem dL_law_233 : decode cL_law 233 = .ok (.aload_n 0, 1) := by decide +kernel
theorem dL_law_234 : decode cL_law 234 = .ok (.iload 4, 2) := by decide +kernel
theorem dL_law_236 : decode cL_law 236 = .ok (.iconst 1, 1) := by decide +kernel
theorem dL_law_237 : decode cL_law 237 = .ok (.iadd, 1) := by decide +kernel
theorem dL_law_238 : decode cL_law 238 = .ok (.iaload, 1) := by decide +kernel
theorem dL_law_239 : decode cL_law 239 = .ok (.aload_n 0, 1) := by decide +kernel
theorem dL_law_240 : decode cL_law 240 = .ok (.iload 4, 2) := by decide +kernel
theorem dL_law_242 : decode cL_law 242 = .ok (.iconst 2, 1) := by decide +kernel
theorem dL_law_243 : decode cL_law 243 = .ok (.iadd, 1) := by decide +kernel
theorem dL_law_244 : decode cL_law 244 = .ok (.iaload, 1) := by decide +kernel
theorem dL_law_245 : decode cL_law 245 = .ok (.aload_n 0, 1) := by decide +kernel
theorem dL_law_246 : decode cL_law 246 = .ok (.iload 4, 2) := by decide +kernel
theorem dL_law_248 : decode cL_law 248 = .ok (.iconst 3, 1) := by decide +kernel
theorem dL_law_249 : decode cL_law 249 = .ok (.iadd, 1) := by decide +kernel
theorem dL_law_250 : decode cL_law 250 = .ok (.iaload, 1) := by decide +kernel
theorem dL_law_251 : decode cL_law 251 = .ok (.aload_n 3, 1) := by decide +kernel
theorem dL_law_252 : decode cL_law 252 = .ok (.invokestatic 114, 3) := by decide +kernel
theorem dL_law_255 : decode cL_law 255 = .ok (.istore 5, 2) := by decide +kernel
theorem dL_law_257 : decode cL_law 257 = .ok (.aload_n 2, 1) := by decide +kernel
theorem dL_law_258 : decode cL_law 258 = .ok (.aload_n 0, 1) := by decide +kernel
theorem dL_law_259 : decode cL_law 259 = .ok (.iload 4, 2) := by decide +kernel
theorem dL_law_261 : decode cL_law 261 = .ok (.iconst 1, 1) := by decide +kernel
theorem dL_law_262 : decode cL_law 262 = .ok (.iadd, 1) := by decide +kernel
theorem dL_law_263 : decode cL_law 263 = .ok (.iaload, 1) := by decide +kernel
theorem dL_law_264 : decode cL_law 264 = .ok (.aload_n 0, 1) := by decide +kernel
theorem dL_law_265 : decode cL_law 265 = .ok (.iload 4, 2) := by decide +kernel
theorem dL_law_267 : decode cL_law 267 = .ok (.iconst 2, 1) := by decide +kernel
theorem dL_law_268 : decode cL_law 268 = .ok (.iadd, 1) := by decide +kernel
theorem dL_law_269 : decode cL_law 269 = .ok (.iaload, 1) := by decide +kernel
theorem dL_law_270 : decode cL_law 270 = .ok (.aload_n 0, 1) := by decide +kernel
theorem dL_law_271 : decode cL_law 271 = .ok (.iload 4, 2) := by decide +kernel
theorem dL_law_273 : decode cL_law 273 = .ok (.iconst 3, 1) := by decide +kernel
theorem dL_law_274 : decode cL_law 274 = .ok (.iadd, 1) := by decide +kernel
theorem dL_law_275 : decode cL_law 275 = .ok (.iaload, 1) := by decide +kernel
theorem dL_law_276 : decode cL_law 276 = .ok (.invokevirtual 119, 3) := by decide +kernel
theorem dL_law_279 : decode cL_law 279 = .ok (.istore 6, 2) := by decide +kernel
theorem dL_law_281 : decode cL_law 281 = .ok (.aload_n 2, 1) := by decide +kernel
theorem dL_law_282 : decode cL_law 282 = .ok (.invokevirtual 120, 3) := by decide +kernel
theorem dL_law_285 : decode cL_law 285 = .ok (.iload 5, 2) := by decide +kernel
theorem dL_law_287 : decode cL_law 287 = .ok (.if_icmp .eq 5, 3) := by decide +kernel
theorem dL_law_292 : decode cL_law 292 = .ok (.iload 5, 2) := by decide +kernel
theorem dL_law_294 : decode cL_law 294 = .ok (.ifCond .ne 15, 3) := by decide +kernel
theorem dL_law_297 : decode cL_law 297 = .ok (.aload_n 3, 1) := by decide +kernel
theorem dL_law_298 : decode cL_law 298 = .ok (.iconst 0, 1) := by decide +kernel
theorem dL_law_299 : decode cL_law 299 = .ok (.laload, 1) := by decide +kernel
theorem dL_law_300 : decode cL_law 300 = .ok (.iload 6, 2) := by decide +kernel
theorem dL_law_302 : decode cL_law 302 = .ok (.i2l, 1) := by decide +kernel
theorem dL_law_303 : decode cL_law 303 = .ok (.lcmp, 1) := by decide +kernel
theorem dL_law_304 : decode cL_law 304 = .ok (.ifCond .eq 5, 3) := by decide +kernel
theorem dL_law_309 : decode cL_law 309 = .ok (.goto 1970, 3) := by decide +kernel
theorem dL_law_312 : decode cL_law 312 = .ok (.aload_n 1, 1) := by decide +kernel
theorem dL_law_313 : decode cL_law 313 = .ok (.aload_n 0, 1) := by decide +kernel
theorem dL_law_314 : decode cL_law 314 = .ok (.iload 4, 2) := by decide +kernel
theorem dL_law_316 : decode cL_law 316 = .ok (.iconst 1, 1) := by decide +kernel
theorem dL_law_317 : decode cL_law 317 = .ok (.iadd, 1) := by decide +kernel
theorem dL_law_318 : decode cL_law 318 = .ok (.iaload, 1) := by decide +kernel
theorem dL_law_319 : decode cL_law 319 = .ok (.aload_n 3, 1) := by decide +kernel
theorem dL_law_320 : decode cL_law 320 = .ok (.invokestatic 124, 3) := by decide +kernel
theorem dL_law_323 : decode cL_law 323 = .ok (.istore 5, 2) := by decide +kernel
theorem dL_law_325 : decode cL_law 325 = .ok (.aload_n 2, 1) := by decide +kernel
theorem dL_law_326 : decode cL_law 326 = .ok (.aload_n 0, 1) := by decide +kernel
theorem dL_law_327 : decode cL_law 327 = .ok (.iload 4, 2) := by decide +kernel
theorem dL_law_329 : decode cL_law 329 = .ok (.iconst 1, 1) := by decide +kernel
theorem dL_law_330 : decode cL_law 330 = .ok (.iadd, 1) := by decide +kernel
theorem dL_law_331 : decode cL_law 331 = .ok (.iaload, 1) := by decide +kernel
theorem dL_law_332 : decode cL_law 332 = .ok (.invokevirtual 127, 3) := by decide +kernel
theorem dL_law_335 : decode cL_law 335 = .ok (.istore 6, 2) := by decide +kernel
theorem dL_law_337 : decode cL_law 337 = .ok (.aload_n 2, 1) := by decide +kernel
theorem dL_law_338 : decode cL_law 338 = .ok (.invokevirtual 120, 3) := by decide +kernel
theorem dL_law_341 : decode cL_law 341 = .ok (.iload 5, 2) := by decide +kernel
theorem dL_law_343 : decode cL_law 343 = .ok (.if_icmp .eq 5, 3) := by decide +kernel
theorem dL_law_348 : decode cL_law 348 = .ok (.iload 5, 2) := by decide +kernel
theorem dL_law_350 : decode cL_law 350 = .ok (.ifCond .ne 15, 3) := by decide +kernel
theorem dL_law_365 : decode cL_law 365 = .ok (.goto 1914, 3) := by decide +kernel
theorem dL_law_368 : decode cL_law 368 = .ok (.aload_n 1, 1) := by decide +kernel
theorem dL_law_369 : decode cL_law 369 = .ok (.aload_n 0, 1) := by decide +kernel
theorem dL_law_370 : decode cL_law 370 = .ok (.iload 4, 2) := by decide +kernel
theorem dL_law_372 : decode cL_law 372 = .ok (.iconst 1, 1) := by decide +kernel
theorem dL_law_373 : decode cL_law 373 = .ok (.iadd, 1) := by decide +kernel
theorem dL_law_374 : decode cL_law 374 = .ok (.iaload, 1) := by decide +kernel
theorem dL_law_375 : decode cL_law 375 = .ok (.aload_n 0, 1) := by decide +kernel
theorem dL_law_376 : decode cL_law 376 = .ok (.iload 4, 2) := by decide +kernel
theorem dL_law_378 : decode cL_law 378 = .ok (.iconst 2, 1) := by decide +kernel
theorem dL_law_379 : decode cL_law 379 = .ok (.iadd, 1) := by decide +kernel
theorem dL_law_380 : decode cL_law 380 = .ok (.iaload, 1) := by decide +kernel
theorem dL_law_381 : decode cL_law 381 = .ok (.aload_n 3, 1) := by decide +kernel
theorem dL_law_382 : decode cL_law 382 = .ok (.invokestatic 128, 3) := by decide +kernel
theorem dL_law_385 : decode cL_law 385 = .ok (.istore 5, 2) := by decide +kernel
theorem dL_law_387 : decode cL_law 387 = .ok (.aload_n 2, 1) := by decide +kernel
theorem dL_law_388 : decode cL_law 388 = .ok (.aload_n 0, 1) := by decide +kernel
theorem dL_law_389 : decode cL_law 389 = .ok (.iload 4, 2) := by decide +kernel
theorem dL_law_391 : decode cL_law 391 = .ok (.iconst 1, 1) := by decide +kernel
theorem dL_law_392 : decode cL_law 392 = .ok (.iadd, 1) := by decide +kernel
theorem dL_law_393 : decode cL_law 393 = .ok (.iaload, 1) := by decide +kernel
theorem dL_law_394 : decode cL_law 394 = .ok (.aload_n 0, 1) := by decide +kernel
theorem dL_law_395 : decode cL_law 395 = .ok (.iload 4, 2) := by decide +kernel
theorem dL_law_397 : decode cL_law 397 = .ok (.iconst 2, 1) := by decide +kernel
theorem dL_law_398 : decode cL_law 398 = .ok (.iadd, 1) := by decide +kernel
theorem dL_law_399 : decode cL_law 399 = .ok (.iaload, 1) := by decide +kernel
theorem dL_law_400 : decode cL_law 400 = .ok (.invokevirtual 131, 3) := by decide +kernel
theorem dL_law_403 : decode cL_law 403 = .ok (.istore 6, 2) := by decide +kernel
theorem dL_law_405 : decode cL_law 405 = .ok (.aload_n 2, 1) := by decide +kernel
theorem dL_law_406 : decode cL_law 406 = .ok (.invokevirtual 120, 3) := by decide +kernel
theorem dL_law_409 : decode cL_law 409 = .ok (.iload 5, 2) := by decide +kernel
theorem dL_law_411 : decode cL_law 411 = .ok (.if_icmp .eq 5, 3) := by decide +kernel
theorem dL_law_416 : decode cL_law 416 = .ok (.iload 5, 2) := by decide +kernel
theorem dL_law_418 : decode cL_law 418 = .ok (.ifCond .ne 15, 3) := by decide +kernel
theorem dL_law_433 : decode cL_law 433 = .ok (.goto 1846, 3) := by decide +kernel
theorem dL_law_436 : decode cL_law 436 = .ok (.aload_n 1, 1) := by decide +kernel
theorem dL_law_437 : decode cL_law 437 = .ok (.aload_n 0, 1) := by decide +kernel
theorem dL_law_438 : decode cL_law 438 = .ok (.iload 4, 2) := by decide +kernel
theorem dL_law_440 : decode cL_law 440 = .ok (.iconst 1, 1) := by decide +kernel
theorem dL_law_441 : decode cL_law 441 = .ok (.iadd, 1) := by decide +kernel
theorem dL_law_442 : decode cL_law 442 = .ok (.iaload, 1) := by decide +kernel
theorem dL_law_443 : decode cL_law 443 = .ok (.aload_n 0, 1) := by decide +kernel
theorem dL_law_444 : decode cL_law 444 = .ok (.iload 4, 2) := by decide +kernel
theorem dL_law_446 : decode cL_law 446 = .ok (.iconst 2, 1) := by decide +kernel
theorem dL_law_447 : decode cL_law 447 = .ok (.iadd, 1) := by decide +kernel
theorem dL_law_448 : decode cL_law 448 = .ok (.iaload, 1) := by decide +kernel
theorem dL_law_449 : decode cL_law 449 = .ok (.aload_n 0, 1) := by decide +kernel
theorem dL_law_450 : decode cL_law 450 = .ok (.iload 4, 2) := by decide +kernel
theorem dL_law_452 : decode cL_law 452 = .ok (.iconst 3, 1) := by decide +kernel
theorem dL_law_453 : decode cL_law 453 = .ok (.iadd, 1) := by decide +kernel
theorem dL_law_454 : decode cL_law 454 = .ok (.iaload, 1) := by decide +kernel
theorem dL_law_455 : decode cL_law 455 = .ok (.aload_n 3, 1) := by decide +kernel
theorem dL_law_456 : decode cL_law 456 = .ok (.invokestatic 132, 3) := by decide +kernel
theorem dL_law_459 : decode cL_law 459 = .ok (.istore 5, 2) := by decide +kernel
theorem dL_law_461 : decode cL_law 461 = .ok (.aload_n 2, 1) := by decide +kernel
theorem dL_law_462 : decode cL_law 462 = .ok (.aload_n 0, 1) := by decide +kernel
theorem dL_law_463 : decode cL_law 463 = .ok (.iload 4, 2) := by decide +kernel
theorem dL_law_465 : decode cL_law 465 = .ok (.iconst 1, 1) := by decide +kernel
theorem dL_law_466 : decode cL_law 466 = .ok (.iadd, 1) := by decide +kernel
theorem dL_law_467 : decode cL_law 467 = .ok (.iaload, 1) := by decide +kernel
theorem dL_law_468 : decode cL_law 468 = .ok (.aload_n 0, 1) := by decide +kernel
theorem dL_law_469 : decode cL_law 469 = .ok (.iload 4, 2) := by decide +kernel
theorem dL_law_471 : decode cL_law 471 = .ok (.iconst 2, 1) := by decide +kernel
theorem dL_law_472 : decode cL_law 472 = .ok (.iadd, 1) := by decide +kernel
theorem dL_law_473 : decode cL_law 473 = .ok (.iaload, 1) := by decide +kernel
theorem dL_law_474 : decode cL_law 474 = .ok (.aload_n 0, 1) := by decide +kernel
theorem dL_law_475 : decode cL_law 475 = .ok (.iload 4, 2) := by decide +kernel
theorem dL_law_477 : decode cL_law 477 = .ok (.iconst 3, 1) := by decide +kernel
theorem dL_law_478 : decode cL_law 478 = .ok (.iadd, 1) := by decide +kernel
theorem dL_law_479 : decode cL_law 479 = .ok (.iaload, 1) := by decide +kernel
theorem dL_law_480 : decode cL_law 480 = .ok (.invokevirtual 134, 3) := by decide +kernel
theorem dL_law_483 : decode cL_law 483 = .ok (.istore 6, 2) := by decide +kernel
theorem dL_law_485 : decode cL_law 485 = .ok (.aload_n 2, 1) := by decide +kernel
theorem dL_law_486 : decode cL_law 486 = .ok (.invokevirtual 120, 3) := by decide +kernel
theorem dL_law_489 : decode cL_law 489 = .ok (.iload 5, 2) := by decide +kernel
theorem dL_law_491 : decode cL_law 491 = .ok (.if_icmp .eq 5, 3) := by decide +kernel
theorem dL_law_496 : decode cL_law 496 = .ok (.iload 5, 2) := by decide +kernel
theorem dL_law_498 : decode cL_law 498 = .ok (.ifCond .ne 15, 3) := by decide +kernel
theorem dL_law_513 : decode cL_law 513 = .ok (.goto 1766, 3) := by decide +kernel
theorem dL_law_516 : decode cL_law 516 = .ok (.aload_n 1, 1) := by decide +kernel
theorem dL_law_517 : decode cL_law 517 = .ok (.invokevirtual 135, 3) := by decide +kernel
theorem dL_law_520 : decode cL_law 520 = .ok (.aload_n 2, 1) := by decide +kernel
theorem dL_law_521 : decode cL_law 521 = .ok (.invokevirtual 138, 3) := by decide +kernel
theorem dL_law_524 : decode cL_law 524 = .ok (.if_icmp .eq 1755, 3) := by decide +kernel
theorem dL_law_529 : decode cL_law 529 = .ok (.aload_n 1, 1) := by decide +kernel
theorem dL_law_530 : decode cL_law 530 = .ok (.aload_n 0, 1) := by decide +kernel
theorem dL_law_531 : decode cL_law 531 = .ok (.iload 4, 2) := by decide +kernel
theorem dL_law_533 : decode cL_law 533 = .ok (.iconst 1, 1) := by decide +kernel
theorem dL_law_534 : decode cL_law 534 = .ok (.iadd, 1) := by decide +kernel
theorem dL_law_535 : decode cL_law 535 = .ok (.iaload, 1) := by decide +kernel
theorem dL_law_536 : decode cL_law 536 = .ok (.aload_n 3, 1) := by decide +kernel
theorem dL_law_537 : decode cL_law 537 = .ok (.invokestatic 139, 3) := by decide +kernel
theorem dL_law_540 : decode cL_law 540 = .ok (.istore 5, 2) := by decide +kernel
theorem dL_law_542 : decode cL_law 542 = .ok (.aload_n 2, 1) := by decide +kernel
theorem dL_law_543 : decode cL_law 543 = .ok (.aload_n 0, 1) := by decide +kernel
theorem dL_law_544 : decode cL_law 544 = .ok (.iload 4, 2) := by decide +kernel
theorem dL_law_546 : decode cL_law 546 = .ok (.iconst 1, 1) := by decide +kernel
theorem dL_law_547 : decode cL_law 547 = .ok (.iadd, 1) := by decide +kernel
theorem dL_law_548 : decode cL_law 548 = .ok (.iaload, 1) := by decide +kernel
theorem dL_law_549 : decode cL_law 549 = .ok (.invokevirtual 141, 3) := by decide +kernel
theorem dL_law_552 : decode cL_law 552 = .ok (.istore 6, 2) := by decide +kernel
theorem dL_law_554 : decode cL_law 554 = .ok (.aload_n 2, 1) := by decide +kernel
theorem dL_law_555 : decode cL_law 555 = .ok (.invokevirtual 120, 3) := by decide +kernel
theorem dL_law_558 : decode cL_law 558 = .ok (.iload 5, 2) := by decide +kernel
theorem dL_law_560 : decode cL_law 560 = .ok (.if_icmp .eq 5, 3) := by decide +kernel
theorem dL_law_565 : decode cL_law 565 = .ok (.iload 5, 2) := by decide +kernel
theorem dL_law_567 : decode cL_law 567 = .ok (.ifCond .ne 15, 3) := by decide +kernel
theorem dL_law_582 : decode cL_law 582 = .ok (.goto 1697, 3) := by decide +kernel
theorem dL_law_585 : decode cL_law 585 = .ok (.aload_n 1, 1) := by decide +kernel
theorem dL_law_586 : decode cL_law 586 = .ok (.aload_n 0, 1) := by decide +kernel
theorem dL_law_587 : decode cL_law 587 = .ok (.iload 4, 2) := by decide +kernel
theorem dL_law_589 : decode cL_law 589 = .ok (.iconst 1, 1) := by decide +kernel
theorem dL_law_590 : decode cL_law 590 = .ok (.iadd, 1) := by decide +kernel
theorem dL_law_591 : decode cL_law 591 = .ok (.iaload, 1) := by decide +kernel
theorem dL_law_592 : decode cL_law 592 = .ok (.aload_n 3, 1) := by decide +kernel
theorem dL_law_593 : decode cL_law 593 = .ok (.invokestatic 142, 3) := by decide +kernel
theorem dL_law_596 : decode cL_law 596 = .ok (.istore 5, 2) := by decide +kernel
theorem dL_law_598 : decode cL_law 598 = .ok (.aload_n 2, 1) := by decide +kernel
theorem dL_law_599 : decode cL_law 599 = .ok (.aload_n 0, 1) := by decide +kernel
theorem dL_law_600 : decode cL_law 600 = .ok (.iload 4, 2) := by decide +kernel
theorem dL_law_602 : decode cL_law 602 = .ok (.iconst 1, 1) := by decide +kernel
theorem dL_law_603 : decode cL_law 603 = .ok (.iadd, 1) := by decide +kernel
theorem dL_law_604 : decode cL_law 604 = .ok (.iaload, 1) := by decide +kernel
theorem dL_law_605 : decode cL_law 605 = .ok (.invokevirtual 144, 3) := by decide +kernel
theorem dL_law_608 : decode cL_law 608 = .ok (.istore 6, 2) := by decide +kernel
theorem dL_law_610 : decode cL_law 610 = .ok (.aload_n 2, 1) := by decide +kernel
theorem dL_law_611 : decode cL_law 611 = .ok (.invokevirtual 120, 3) := by decide +kernel
theorem dL_law_614 : decode cL_law 614 = .ok (.iload 5, 2) := by decide +kernel
theorem dL_law_616 : decode cL_law 616 = .ok (.if_icmp .eq 5, 3) := by decide +kernel
theorem dL_law_621 : decode cL_law 621 = .ok (.iload 5, 2) := by decide +kernel
theorem dL_law_623 : decode cL_law 623 = .ok (.ifCond .ne 15, 3) := by decide +kernel
theorem dL_law_638 : decode cL_law 638 = .ok (.goto 1641, 3) := by decide +kernel
theorem dL_law_641 : decode cL_law 641 = .ok (.aload_n 1, 1) := by decide +kernel
theorem dL_law_642 : decode cL_law 642 = .ok (.invokevirtual 145, 3) := by decide +kernel
theorem dL_law_645 : decode cL_law 645 = .ok (.aload_n 2, 1) := by decide +kernel
theorem dL_law_646 : decode cL_law 646 = .ok (.invokevirtual 148, 3) := by decide +kernel
theorem dL_law_649 : decode cL_law 649 = .ok (.if_icmp .eq 1630, 3) := by decide +kernel
theorem dL_law_654 : decode cL_law 654 = .ok (.aload_n 1, 1) := by decide +kernel
theorem dL_law_655 : decode cL_law 655 = .ok (.aload_n 0, 1) := by decide +kernel
theorem dL_law_656 : decode cL_law 656 = .ok (.iload 4, 2) := by decide +kernel
theorem dL_law_658 : decode cL_law 658 = .ok (.iconst 1, 1) := by decide +kernel
theorem dL_law_659 : decode cL_law 659 = .ok (.iadd, 1) := by decide +kernel
theorem dL_law_660 : decode cL_law 660 = .ok (.iaload, 1) := by decide +kernel
theorem dL_law_661 : decode cL_law 661 = .ok (.aload_n 3, 1) := by decide +kernel
theorem dL_law_662 : decode cL_law 662 = .ok (.invokestatic 149, 3) := by decide +kernel
theorem dL_law_665 : decode cL_law 665 = .ok (.istore 5, 2) := by decide +kernel
theorem dL_law_667 : decode cL_law 667 = .ok (.aload_n 2, 1) := by decide +kernel
theorem dL_law_668 : decode cL_law 668 = .ok (.aload_n 0, 1) := by decide +kernel
theorem dL_law_669 : decode cL_law 669 = .ok (.iload 4, 2) := by decide +kernel
theorem dL_law_671 : decode cL_law 671 = .ok (.iconst 1, 1) := by decide +kernel
theorem dL_law_672 : decode cL_law 672 = .ok (.iadd, 1) := by decide +kernel
theorem dL_law_673 : decode cL_law 673 = .ok (.iaload, 1) := by decide +kernel
theorem dL_law_674 : decode cL_law 674 = .ok (.invokevirtual 151, 3) := by decide +kernel
theorem dL_law_677 : decode cL_law 677 = .ok (.istore 6, 2) := by decide +kernel
theorem dL_law_679 : decode cL_law 679 = .ok (.aload_n 2, 1) := by decide +kernel
theorem dL_law_680 : decode cL_law 680 = .ok (.invokevirtual 120, 3) := by decide +kernel
theorem dL_law_683 : decode cL_law 683 = .ok (.iload 5, 2) := by decide +kernel
theorem dL_law_685 : decode cL_law 685 = .ok (.if_icmp .eq 5, 3) := by decide +kernel
theorem dL_law_690 : decode cL_law 690 = .ok (.iload 5, 2) := by decide +kernel
theorem dL_law_692 : decode cL_law 692 = .ok (.ifCond .ne 15, 3) := by decide +kernel
theorem dL_law_707 : decode cL_law 707 = .ok (.goto 1572, 3) := by decide +kernel
theorem dL_law_710 : decode cL_law 710 = .ok (.aload_n 1, 1) := by decide +kernel
theorem dL_law_711 : decode cL_law 711 = .ok (.aload_n 0, 1) := by decide +kernel
theorem dL_law_712 : decode cL_law 712 = .ok (.iload 4, 2) := by decide +kernel
theorem dL_law_714 : decode cL_law 714 = .ok (.iconst 1, 1) := by decide +kernel
theorem dL_law_715 : decode cL_law 715 = .ok (.iadd, 1) := by decide +kernel
theorem dL_law_716 : decode cL_law 716 = .ok (.iaload, 1) := by decide +kernel
theorem dL_law_717 : decode cL_law 717 = .ok (.aload_n 3, 1) := by decide +kernel
theorem dL_law_718 : decode cL_law 718 = .ok (.invokestatic 152, 3) := by decide +kernel
theorem dL_law_721 : decode cL_law 721 = .ok (.istore 5, 2) := by decide +kernel
theorem dL_law_723 : decode cL_law 723 = .ok (.aload_n 2, 1) := by decide +kernel
theorem dL_law_724 : decode cL_law 724 = .ok (.aload_n 0, 1) := by decide +kernel
theorem dL_law_725 : decode cL_law 725 = .ok (.iload 4, 2) := by decide +kernel
theorem dL_law_727 : decode cL_law 727 = .ok (.iconst 1, 1) := by decide +kernel
theorem dL_law_728 : decode cL_law 728 = .ok (.iadd, 1) := by decide +kernel
theorem dL_law_729 : decode cL_law 729 = .ok (.iaload, 1) := by decide +kernel
theorem dL_law_730 : decode cL_law 730 = .ok (.invokevirtual 154, 3) := by decide +kernel
theorem dL_law_733 : decode cL_law 733 = .ok (.istore 6, 2) := by decide +kernel
theorem dL_law_735 : decode cL_law 735 = .ok (.aload_n 2, 1) := by decide +kernel
theorem dL_law_736 : decode cL_law 736 = .ok (.invokevirtual 120, 3) := by decide +kernel
theorem dL_law_739 : decode cL_law 739 = .ok (.iload 5, 2) := by decide +kernel
theorem dL_law_741 : decode cL_law 741 = .ok (.if_icmp .eq 5, 3) := by decide +kernel
theorem dL_law_746 : decode cL_law 746 = .ok (.iload 5, 2) := by decide +kernel
theorem dL_law_748 : decode cL_law 748 = .ok (.ifCond .ne 15, 3) := by decide +kernel
theorem dL_law_763 : decode cL_law 763 = .ok (.goto 1516, 3) := by decide +kernel
theorem dL_law_766 : decode cL_law 766 = .ok (.aload_n 1, 1) := by decide +kernel
theorem dL_law_767 : decode cL_law 767 = .ok (.aload_n 0, 1) := by decide +kernel
theorem dL_law_768 : decode cL_law 768 = .ok (.iload 4, 2) := by decide +kernel
theorem dL_law_770 : decode cL_law 770 = .ok (.iconst 1, 1) := by decide +kernel
theorem dL_law_771 : decode cL_law 771 = .ok (.iadd, 1) := by decide +kernel
theorem dL_law_772 : decode cL_law 772 = .ok (.iaload, 1) := by decide +kernel
theorem dL_law_773 : decode cL_law 773 = .ok (.aload_n 3, 1) := by decide +kernel
theorem dL_law_774 : decode cL_law 774 = .ok (.invokestatic 155, 3) := by decide +kernel
theorem dL_law_777 : decode cL_law 777 = .ok (.istore 5, 2) := by decide +kernel
theorem dL_law_779 : decode cL_law 779 = .ok (.aload_n 2, 1) := by decide +kernel
theorem dL_law_780 : decode cL_law 780 = .ok (.aload_n 0, 1) := by decide +kernel
theorem dL_law_781 : decode cL_law 781 = .ok (.iload 4, 2) := by decide +kernel
theorem dL_law_783 : decode cL_law 783 = .ok (.iconst 1, 1) := by decide +kernel
theorem dL_law_784 : decode cL_law 784 = .ok (.iadd, 1) := by decide +kernel
theorem dL_law_785 : decode cL_law 785 = .ok (.iaload, 1) := by decide +kernel
theorem dL_law_786 : decode cL_law 786 = .ok (.invokevirtual 157, 3) := by decide +kernel
theorem dL_law_789 : decode cL_law 789 = .ok (.istore 6, 2) := by decide +kernel
theorem dL_law_791 : decode cL_law 791 = .ok (.aload_n 2, 1) := by decide +kernel
theorem dL_law_792 : decode cL_law 792 = .ok (.invokevirtual 120, 3) := by decide +kernel
theorem dL_law_795 : decode cL_law 795 = .ok (.iload 5, 2) := by decide +kernel
theorem dL_law_797 : decode cL_law 797 = .ok (.if_icmp .eq 5, 3) := by decide +kernel
theorem dL_law_802 : decode cL_law 802 = .ok (.iload 5, 2) := by decide +kernel
theorem dL_law_804 : decode cL_law 804 = .ok (.ifCond .ne 22, 3) := by decide +kernel
theorem dL_law_826 : decode cL_law 826 = .ok (.goto 1453, 3) := by decide +kernel
theorem dL_law_829 : decode cL_law 829 = .ok (.aload_n 1, 1) := by decide +kernel
theorem dL_law_830 : decode cL_law 830 = .ok (.invokevirtual 158, 3) := by decide +kernel
theorem dL_law_833 : decode cL_law 833 = .ok (.aload_n 2, 1) := by decide +kernel
theorem dL_law_834 : decode cL_law 834 = .ok (.invokevirtual 161, 3) := by decide +kernel
theorem dL_law_837 : decode cL_law 837 = .ok (.if_icmp .eq 1442, 3) := by decide +kernel
theorem dL_law_842 : decode cL_law 842 = .ok (.aload_n 1, 1) := by decide +kernel
theorem dL_law_843 : decode cL_law 843 = .ok (.aload_n 0, 1) := by decide +kernel
theorem dL_law_844 : decode cL_law 844 = .ok (.iload 4, 2) := by decide +kernel
theorem dL_law_846 : decode cL_law 846 = .ok (.iconst 1, 1) := by decide +kernel
theorem dL_law_847 : decode cL_law 847 = .ok (.iadd, 1) := by decide +kernel
theorem dL_law_848 : decode cL_law 848 = .ok (.iaload, 1) := by decide +kernel
theorem dL_law_849 : decode cL_law 849 = .ok (.aload_n 3, 1) := by decide +kernel
theorem dL_law_850 : decode cL_law 850 = .ok (.invokestatic 162, 3) := by decide +kernel
theorem dL_law_853 : decode cL_law 853 = .ok (.istore 5, 2) := by decide +kernel
theorem dL_law_855 : decode cL_law 855 = .ok (.aload_n 2, 1) := by decide +kernel
theorem dL_law_856 : decode cL_law 856 = .ok (.aload_n 0, 1) := by decide +kernel
theorem dL_law_857 : decode cL_law 857 = .ok (.iload 4, 2) := by decide +kernel
theorem dL_law_859 : decode cL_law 859 = .ok (.iconst 1, 1) := by decide +kernel
theorem dL_law_860 : decode cL_law 860 = .ok (.iadd, 1) := by decide +kernel
theorem dL_law_861 : decode cL_law 861 = .ok (.iaload, 1) := by decide +kernel
theorem dL_law_862 : decode cL_law 862 = .ok (.invokevirtual 164, 3) := by decide +kernel
theorem dL_law_865 : decode cL_law 865 = .ok (.istore 6, 2) := by decide +kernel
theorem dL_law_867 : decode cL_law 867 = .ok (.aload_n 2, 1) := by decide +kernel
theorem dL_law_868 : decode cL_law 868 = .ok (.invokevirtual 120, 3) := by decide +kernel
theorem dL_law_871 : decode cL_law 871 = .ok (.iload 5, 2) := by decide +kernel
theorem dL_law_873 : decode cL_law 873 = .ok (.if_icmp .eq 5, 3) := by decide +kernel
theorem dL_law_878 : decode cL_law 878 = .ok (.iload 5, 2) := by decide +kernel
theorem dL_law_880 : decode cL_law 880 = .ok (.ifCond .ne 15, 3) := by decide +kernel
theorem dL_law_895 : decode cL_law 895 = .ok (.goto 1384, 3) := by decide +kernel
theorem dL_law_898 : decode cL_law 898 = .ok (.aload_n 1, 1) := by decide +kernel
theorem dL_law_899 : decode cL_law 899 = .ok (.aload_n 0, 1) := by decide +kernel
theorem dL_law_900 : decode cL_law 900 = .ok (.iload 4, 2) := by decide +kernel
theorem dL_law_902 : decode cL_law 902 = .ok (.iconst 1, 1) := by decide +kernel
theorem dL_law_903 : decode cL_law 903 = .ok (.iadd, 1) := by decide +kernel
theorem dL_law_904 : decode cL_law 904 = .ok (.iaload, 1) := by decide +kernel
theorem dL_law_905 : decode cL_law 905 = .ok (.aload_n 3, 1) := by decide +kernel
theorem dL_law_906 : decode cL_law 906 = .ok (.invokestatic 165, 3) := by decide +kernel
theorem dL_law_909 : decode cL_law 909 = .ok (.istore 5, 2) := by decide +kernel
theorem dL_law_911 : decode cL_law 911 = .ok (.aload_n 2, 1) := by decide +kernel
theorem dL_law_912 : decode cL_law 912 = .ok (.aload_n 0, 1) := by decide +kernel
theorem dL_law_913 : decode cL_law 913 = .ok (.iload 4, 2) := by decide +kernel
theorem dL_law_915 : decode cL_law 915 = .ok (.iconst 1, 1) := by decide +kernel
theorem dL_law_916 : decode cL_law 916 = .ok (.iadd, 1) := by decide +kernel
theorem dL_law_917 : decode cL_law 917 = .ok (.iaload, 1) := by decide +kernel
theorem dL_law_918 : decode cL_law 918 = .ok (.invokevirtual 167, 3) := by decide +kernel
theorem dL_law_921 : decode cL_law 921 = .ok (.istore 6, 2) := by decide +kernel
theorem dL_law_923 : decode cL_law 923 = .ok (.aload_n 2, 1) := by decide +kernel
theorem dL_law_924 : decode cL_law 924 = .ok (.invokevirtual 120, 3) := by decide +kernel
theorem dL_law_927 : decode cL_law 927 = .ok (.iload 5, 2) := by decide +kernel
theorem dL_law_929 : decode cL_law 929 = .ok (.if_icmp .eq 5, 3) := by decide +kernel
theorem dL_law_934 : decode cL_law 934 = .ok (.iload 5, 2) := by decide +kernel
theorem dL_law_936 : decode cL_law 936 = .ok (.ifCond .ne 15, 3) := by decide +kernel
theorem dL_law_951 : decode cL_law 951 = .ok (.goto 1328, 3) := by decide +kernel
theorem dL_law_954 : decode cL_law 954 = .ok (.aload_n 1, 1) := by decide +kernel
theorem dL_law_955 : decode cL_law 955 = .ok (.aload_n 0, 1) := by decide +kernel
theorem dL_law_956 : decode cL_law 956 = .ok (.iload 4, 2) := by decide +kernel
theorem dL_law_958 : decode cL_law 958 = .ok (.iconst 1, 1) := by decide +kernel
theorem dL_law_959 : decode cL_law 959 = .ok (.iadd, 1) := by decide +kernel
theorem dL_law_960 : decode cL_law 960 = .ok (.iaload, 1) := by decide +kernel
theorem dL_law_961 : decode cL_law 961 = .ok (.aload_n 0, 1) := by decide +kernel
theorem dL_law_962 : decode cL_law 962 = .ok (.iload 4, 2) := by decide +kernel
theorem dL_law_964 : decode cL_law 964 = .ok (.iconst 2, 1) := by decide +kernel
theorem dL_law_965 : decode cL_law 965 = .ok (.iadd, 1) := by decide +kernel
theorem dL_law_966 : decode cL_law 966 = .ok (.iaload, 1) := by decide +kernel
theorem dL_law_967 : decode cL_law 967 = .ok (.aload_n 3, 1) := by decide +kernel
theorem dL_law_968 : decode cL_law 968 = .ok (.invokestatic 168, 3) := by decide +kernel
theorem dL_law_971 : decode cL_law 971 = .ok (.istore 5, 2) := by decide +kernel
theorem dL_law_973 : decode cL_law 973 = .ok (.aload_n 2, 1) := by decide +kernel
theorem dL_law_974 : decode cL_law 974 = .ok (.aload_n 0, 1) := by decide +kernel
theorem dL_law_975 : decode cL_law 975 = .ok (.iload 4, 2) := by decide +kernel
theorem dL_law_977 : decode cL_law 977 = .ok (.iconst 1, 1) := by decide +kernel
theorem dL_law_978 : decode cL_law 978 = .ok (.iadd, 1) := by decide +kernel
theorem dL_law_979 : decode cL_law 979 = .ok (.iaload, 1) := by decide +kernel
theorem dL_law_980 : decode cL_law 980 = .ok (.aload_n 0, 1) := by decide +kernel
theorem dL_law_981 : decode cL_law 981 = .ok (.iload 4, 2) := by decide +kernel
theorem dL_law_983 : decode cL_law 983 = .ok (.iconst 2, 1) := by decide +kernel
theorem dL_law_984 : decode cL_law 984 = .ok (.iadd, 1) := by decide +kernel
theorem dL_law_985 : decode cL_law 985 = .ok (.iaload, 1) := by decide +kernel
theorem dL_law_986 : decode cL_law 986 = .ok (.invokevirtual 170, 3) := by decide +kernel
theorem dL_law_989 : decode cL_law 989 = .ok (.istore 6, 2) := by decide +kernel
theorem dL_law_991 : decode cL_law 991 = .ok (.aload_n 2, 1) := by decide +kernel
theorem dL_law_992 : decode cL_law 992 = .ok (.invokevirtual 120, 3) := by decide +kernel
theorem dL_law_995 : decode cL_law 995 = .ok (.iload 5, 2) := by decide +kernel
theorem dL_law_997 : decode cL_law 997 = .ok (.if_icmp .eq 5, 3) := by decide +kernel
theorem dL_law_1002 : decode cL_law 1002 = .ok (.iload 5, 2) := by decide +kernel
theorem dL_law_1004 : decode cL_law 1004 = .ok (.ifCond .ne 22, 3) := by decide +kernel
theorem dL_law_1026 : decode cL_law 1026 = .ok (.goto 1253, 3) := by decide +kernel
theorem dL_law_1029 : decode cL_law 1029 = .ok (.aload_n 1, 1) := by decide +kernel
theorem dL_law_1030 : decode cL_law 1030 = .ok (.aload_n 0, 1) := by decide +kernel
theorem dL_law_1031 : decode cL_law 1031 = .ok (.iload 4, 2) := by decide +kernel
theorem dL_law_1033 : decode cL_law 1033 = .ok (.iconst 1, 1) := by decide +kernel
theorem dL_law_1034 : decode cL_law 1034 = .ok (.iadd, 1) := by decide +kernel
theorem dL_law_1035 : decode cL_law 1035 = .ok (.iaload, 1) := by decide +kernel
theorem dL_law_1036 : decode cL_law 1036 = .ok (.aload_n 3, 1) := by decide +kernel
theorem dL_law_1037 : decode cL_law 1037 = .ok (.invokestatic 171, 3) := by decide +kernel
theorem dL_law_1040 : decode cL_law 1040 = .ok (.istore 5, 2) := by decide +kernel
theorem dL_law_1042 : decode cL_law 1042 = .ok (.aload_n 2, 1) := by decide +kernel
theorem dL_law_1043 : decode cL_law 1043 = .ok (.aload_n 0, 1) := by decide +kernel
theorem dL_law_1044 : decode cL_law 1044 = .ok (.iload 4, 2) := by decide +kernel
theorem dL_law_1046 : decode cL_law 1046 = .ok (.iconst 1, 1) := by decide +kernel
theorem dL_law_1047 : decode cL_law 1047 = .ok (.iadd, 1) := by decide +kernel
theorem dL_law_1048 : decode cL_law 1048 = .ok (.iaload, 1) := by decide +kernel
theorem dL_law_1049 : decode cL_law 1049 = .ok (.invokevirtual 173, 3) := by decide +kernel
theorem dL_law_1052 : decode cL_law 1052 = .ok (.istore 6, 2) := by decide +kernel
theorem dL_law_1054 : decode cL_law 1054 = .ok (.aload_n 2, 1) := by decide +kernel
theorem dL_law_1055 : decode cL_law 1055 = .ok (.invokevirtual 120, 3) := by decide +kernel
theorem dL_law_1058 : decode cL_law 1058 = .ok (.iload 5, 2) := by decide +kernel
theorem dL_law_1060 : decode cL_law 1060 = .ok (.if_icmp .eq 5, 3) := by decide +kernel
theorem dL_law_1065 : decode cL_law 1065 = .ok (.iload 5, 2) := by decide +kernel
theorem dL_law_1067 : decode cL_law 1067 = .ok (.ifCond .ne 15, 3) := by decide +kernel
theorem dL_law_1082 : decode cL_law 1082 = .ok (.goto 1197, 3) := by decide +kernel
theorem dL_law_1085 : decode cL_law 1085 = .ok (.aload_n 1, 1) := by decide +kernel
theorem dL_law_1086 : decode cL_law 1086 = .ok (.aload_n 0, 1) := by decide +kernel
theorem dL_law_1087 : decode cL_law 1087 = .ok (.iload 4, 2) := by decide +kernel
theorem dL_law_1089 : decode cL_law 1089 = .ok (.iconst 1, 1) := by decide +kernel
theorem dL_law_1090 : decode cL_law 1090 = .ok (.iadd, 1) := by decide +kernel
theorem dL_law_1091 : decode cL_law 1091 = .ok (.iaload, 1) := by decide +kernel
theorem dL_law_1092 : decode cL_law 1092 = .ok (.aload_n 0, 1) := by decide +kernel
theorem dL_law_1093 : decode cL_law 1093 = .ok (.iload 4, 2) := by decide +kernel
theorem dL_law_1095 : decode cL_law 1095 = .ok (.iconst 2, 1) := by decide +kernel
theorem dL_law_1096 : decode cL_law 1096 = .ok (.iadd, 1) := by decide +kernel
theorem dL_law_1097 : decode cL_law 1097 = .ok (.iaload, 1) := by decide +kernel
theorem dL_law_1098 : decode cL_law 1098 = .ok (.aload_n 3, 1) := by decide +kernel
theorem dL_law_1099 : decode cL_law 1099 = .ok (.invokestatic 174, 3) := by decide +kernel
theorem dL_law_1102 : decode cL_law 1102 = .ok (.istore 5, 2) := by decide +kernel
theorem dL_law_1104 : decode cL_law 1104 = .ok (.aload_n 2, 1) := by decide +kernel
theorem dL_law_1105 : decode cL_law 1105 = .ok (.aload_n 0, 1) := by decide +kernel
theorem dL_law_1106 : decode cL_law 1106 = .ok (.iload 4, 2) := by decide +kernel
theorem dL_law_1108 : decode cL_law 1108 = .ok (.iconst 1, 1) := by decide +kernel
theorem dL_law_1109 : decode cL_law 1109 = .ok (.iadd, 1) := by decide +kernel
theorem dL_law_1110 : decode cL_law 1110 = .ok (.iaload, 1) := by decide +kernel
theorem dL_law_1111 : decode cL_law 1111 = .ok (.aload_n 0, 1) := by decide +kernel
theorem dL_law_1112 : decode cL_law 1112 = .ok (.iload 4, 2) := by decide +kernel
theorem dL_law_1114 : decode cL_law 1114 = .ok (.iconst 2, 1) := by decide +kernel
theorem dL_law_1115 : decode cL_law 1115 = .ok (.iadd, 1) := by decide +kernel
theorem dL_law_1116 : decode cL_law 1116 = .ok (.iaload, 1) := by decide +kernel
theorem dL_law_1117 : decode cL_law 1117 = .ok (.invokevirtual 176, 3) := by decide +kernel
theorem dL_law_1120 : decode cL_law 1120 = .ok (.istore 6, 2) := by decide +kernel
theorem dL_law_1122 : decode cL_law 1122 = .ok (.aload_n 2, 1) := by decide +kernel
theorem dL_law_1123 : decode cL_law 1123 = .ok (.invokevirtual 120, 3) := by decide +kernel
theorem dL_law_1126 : decode cL_law 1126 = .ok (.iload 5, 2) := by decide +kernel
theorem dL_law_1128 : decode cL_law 1128 = .ok (.if_icmp .eq 5, 3) := by decide +kernel
theorem dL_law_1133 : decode cL_law 1133 = .ok (.iload 5, 2) := by decide +kernel
theorem dL_law_1135 : decode cL_law 1135 = .ok (.ifCond .ne 22, 3) := by decide +kernel
theorem dL_law_1157 : decode cL_law 1157 = .ok (.goto 1122, 3) := by decide +kernel
theorem dL_law_1160 : decode cL_law 1160 = .ok (.aload_n 1, 1) := by decide +kernel
theorem dL_law_1161 : decode cL_law 1161 = .ok (.aload_n 0, 1) := by decide +kernel
theorem dL_law_1162 : decode cL_law 1162 = .ok (.iload 4, 2) := by decide +kernel
theorem dL_law_1164 : decode cL_law 1164 = .ok (.iconst 1, 1) := by decide +kernel
theorem dL_law_1165 : decode cL_law 1165 = .ok (.iadd, 1) := by decide +kernel
theorem dL_law_1166 : decode cL_law 1166 = .ok (.iaload, 1) := by decide +kernel
theorem dL_law_1167 : decode cL_law 1167 = .ok (.aload_n 3, 1) := by decide +kernel
theorem dL_law_1168 : decode cL_law 1168 = .ok (.invokestatic 177, 3) := by decide +kernel
theorem dL_law_1171 : decode cL_law 1171 = .ok (.istore 5, 2) := by decide +kernel
theorem dL_law_1173 : decode cL_law 1173 = .ok (.aload_n 2, 1) := by decide +kernel
theorem dL_law_1174 : decode cL_law 1174 = .ok (.aload_n 0, 1) := by decide +kernel
theorem dL_law_1175 : decode cL_law 1175 = .ok (.iload 4, 2) := by decide +kernel
theorem dL_law_1177 : decode cL_law 1177 = .ok (.iconst 1, 1) := by decide +kernel
theorem dL_law_1178 : decode cL_law 1178 = .ok (.iadd, 1) := by decide +kernel
theorem dL_law_1179 : decode cL_law 1179 = .ok (.iaload, 1) := by decide +kernel
theorem dL_law_1180 : decode cL_law 1180 = .ok (.invokevirtual 179, 3) := by decide +kernel
theorem dL_law_1183 : decode cL_law 1183 = .ok (.istore 6, 2) := by decide +kernel
theorem dL_law_1185 : decode cL_law 1185 = .ok (.aload_n 2, 1) := by decide +kernel
theorem dL_law_1186 : decode cL_law 1186 = .ok (.invokevirtual 120, 3) := by decide +kernel
theorem dL_law_1189 : decode cL_law 1189 = .ok (.iload 5, 2) := by decide +kernel
theorem dL_law_1191 : decode cL_law 1191 = .ok (.if_icmp .eq 5, 3) := by decide +kernel
theorem dL_law_1196 : decode cL_law 1196 = .ok (.iload 5, 2) := by decide +kernel
theorem dL_law_1198 : decode cL_law 1198 = .ok (.ifCond .ne 22, 3) := by decide +kernel
theorem dL_law_1220 : decode cL_law 1220 = .ok (.goto 1059, 3) := by decide +kernel
theorem dL_law_1223 : decode cL_law 1223 = .ok (.aload_n 1, 1) := by decide +kernel
theorem dL_law_1224 : decode cL_law 1224 = .ok (.invokevirtual 180, 3) := by decide +kernel
theorem dL_law_1227 : decode cL_law 1227 = .ok (.aload_n 2, 1) := by decide +kernel
theorem dL_law_1228 : decode cL_law 1228 = .ok (.invokevirtual 183, 3) := by decide +kernel
theorem dL_law_1231 : decode cL_law 1231 = .ok (.if_icmp .eq 1048, 3) := by decide +kernel
theorem dL_law_1236 : decode cL_law 1236 = .ok (.aload_n 1, 1) := by decide +kernel
theorem dL_law_1237 : decode cL_law 1237 = .ok (.aload_n 0, 1) := by decide +kernel
theorem dL_law_1238 : decode cL_law 1238 = .ok (.iload 4, 2) := by decide +kernel
theorem dL_law_1240 : decode cL_law 1240 = .ok (.iconst 1, 1) := by decide +kernel
theorem dL_law_1241 : decode cL_law 1241 = .ok (.iadd, 1) := by decide +kernel
theorem dL_law_1242 : decode cL_law 1242 = .ok (.iaload, 1) := by decide +kernel
theorem dL_law_1243 : decode cL_law 1243 = .ok (.aload_n 3, 1) := by decide +kernel
theorem dL_law_1244 : decode cL_law 1244 = .ok (.invokestatic 184, 3) := by decide +kernel
theorem dL_law_1247 : decode cL_law 1247 = .ok (.istore 5, 2) := by decide +kernel
theorem dL_law_1249 : decode cL_law 1249 = .ok (.aload_n 2, 1) := by decide +kernel
theorem dL_law_1250 : decode cL_law 1250 = .ok (.aload_n 0, 1) := by decide +kernel
theorem dL_law_1251 : decode cL_law 1251 = .ok (.iload 4, 2) := by decide +kernel
theorem dL_law_1253 : decode cL_law 1253 = .ok (.iconst 1, 1) := by decide +kernel
theorem dL_law_1254 : decode cL_law 1254 = .ok (.iadd, 1) := by decide +kernel
theorem dL_law_1255 : decode cL_law 1255 = .ok (.iaload, 1) := by decide +kernel
theorem dL_law_1256 : decode cL_law 1256 = .ok (.invokevirtual 186, 3) := by decide +kernel
theorem dL_law_1259 : decode cL_law 1259 = .ok (.istore 6, 2) := by decide +kernel
theorem dL_law_1261 : decode cL_law 1261 = .ok (.aload_n 2, 1) := by decide +kernel
theorem dL_law_1262 : decode cL_law 1262 = .ok (.invokevirtual 120, 3) := by decide +kernel
theorem dL_law_1265 : decode cL_law 1265 = .ok (.iload 5, 2) := by decide +kernel
theorem dL_law_1267 : decode cL_law 1267 = .ok (.if_icmp .eq 5, 3) := by decide +kernel
theorem dL_law_1272 : decode cL_law 1272 = .ok (.iload 5, 2) := by decide +kernel
theorem dL_law_1274 : decode cL_law 1274 = .ok (.ifCond .ne 15, 3) := by decide +kernel
theorem dL_law_1289 : decode cL_law 1289 = .ok (.goto 990, 3) := by decide +kernel
theorem dL_law_1292 : decode cL_law 1292 = .ok (.aload_n 1, 1) := by decide +kernel
theorem dL_law_1293 : decode cL_law 1293 = .ok (.aload_n 0, 1) := by decide +kernel
theorem dL_law_1294 : decode cL_law 1294 = .ok (.iload 4, 2) := by decide +kernel
theorem dL_law_1296 : decode cL_law 1296 = .ok (.iconst 1, 1) := by decide +kernel
theorem dL_law_1297 : decode cL_law 1297 = .ok (.iadd, 1) := by decide +kernel
theorem dL_law_1298 : decode cL_law 1298 = .ok (.iaload, 1) := by decide +kernel
theorem dL_law_1299 : decode cL_law 1299 = .ok (.aload_n 3, 1) := by decide +kernel
theorem dL_law_1300 : decode cL_law 1300 = .ok (.invokestatic 187, 3) := by decide +kernel
theorem dL_law_1303 : decode cL_law 1303 = .ok (.istore 5, 2) := by decide +kernel
theorem dL_law_1305 : decode cL_law 1305 = .ok (.aload_n 2, 1) := by decide +kernel
theorem dL_law_1306 : decode cL_law 1306 = .ok (.aload_n 0, 1) := by decide +kernel
theorem dL_law_1307 : decode cL_law 1307 = .ok (.iload 4, 2) := by decide +kernel
theorem dL_law_1309 : decode cL_law 1309 = .ok (.iconst 1, 1) := by decide +kernel
theorem dL_law_1310 : decode cL_law 1310 = .ok (.iadd, 1) := by decide +kernel
theorem dL_law_1311 : decode cL_law 1311 = .ok (.iaload, 1) := by decide +kernel
theorem dL_law_1312 : decode cL_law 1312 = .ok (.invokevirtual 189, 3) := by decide +kernel
theorem dL_law_1315 : decode cL_law 1315 = .ok (.istore 6, 2) := by decide +kernel
theorem dL_law_1317 : decode cL_law 1317 = .ok (.aload_n 2, 1) := by decide +kernel
theorem dL_law_1318 : decode cL_law 1318 = .ok (.invokevirtual 120, 3) := by decide +kernel
theorem dL_law_1321 : decode cL_law 1321 = .ok (.iload 5, 2) := by decide +kernel
theorem dL_law_1323 : decode cL_law 1323 = .ok (.if_icmp .eq 5, 3) := by decide +kernel
theorem dL_law_1328 : decode cL_law 1328 = .ok (.iload 5, 2) := by decide +kernel
theorem dL_law_1330 : decode cL_law 1330 = .ok (.ifCond .ne 15, 3) := by decide +kernel
theorem dL_law_1345 : decode cL_law 1345 = .ok (.goto 934, 3) := by decide +kernel
theorem dL_law_1348 : decode cL_law 1348 = .ok (.aload_n 1, 1) := by decide +kernel
theorem dL_law_1349 : decode cL_law 1349 = .ok (.invokevirtual 190, 3) := by decide +kernel
theorem dL_law_1352 : decode cL_law 1352 = .ok (.aload_n 2, 1) := by decide +kernel
theorem dL_law_1353 : decode cL_law 1353 = .ok (.invokevirtual 194, 3) := by decide +kernel
theorem dL_law_1356 : decode cL_law 1356 = .ok (.if_icmp .eq 923, 3) := by decide +kernel
theorem dL_law_1361 : decode cL_law 1361 = .ok (.aload_n 1, 1) := by decide +kernel
theorem dL_law_1362 : decode cL_law 1362 = .ok (.aload_n 0, 1) := by decide +kernel
theorem dL_law_1363 : decode cL_law 1363 = .ok (.iload 4, 2) := by decide +kernel
theorem dL_law_1365 : decode cL_law 1365 = .ok (.iconst 1, 1) := by decide +kernel
theorem dL_law_1366 : decode cL_law 1366 = .ok (.iadd, 1) := by decide +kernel
theorem dL_law_1367 : decode cL_law 1367 = .ok (.iaload, 1) := by decide +kernel
theorem dL_law_1368 : decode cL_law 1368 = .ok (.aload_n 3, 1) := by decide +kernel
theorem dL_law_1369 : decode cL_law 1369 = .ok (.invokestatic 195, 3) := by decide +kernel
theorem dL_law_1372 : decode cL_law 1372 = .ok (.istore 5, 2) := by decide +kernel
theorem dL_law_1374 : decode cL_law 1374 = .ok (.aload_n 2, 1) := by decide +kernel
theorem dL_law_1375 : decode cL_law 1375 = .ok (.aload_n 0, 1) := by decide +kernel
theorem dL_law_1376 : decode cL_law 1376 = .ok (.iload 4, 2) := by decide +kernel
theorem dL_law_1378 : decode cL_law 1378 = .ok (.iconst 1, 1) := by decide +kernel
theorem dL_law_1379 : decode cL_law 1379 = .ok (.iadd, 1) := by decide +kernel
theorem dL_law_1380 : decode cL_law 1380 = .ok (.iaload, 1) := by decide +kernel
theorem dL_law_1381 : decode cL_law 1381 = .ok (.invokevirtual 197, 3) := by decide +kernel
theorem dL_law_1384 : decode cL_law 1384 = .ok (.istore 6, 2) := by decide +kernel
theorem dL_law_1386 : decode cL_law 1386 = .ok (.aload_n 2, 1) := by decide +kernel
theorem dL_law_1387 : decode cL_law 1387 = .ok (.invokevirtual 120, 3) := by decide +kernel
theorem dL_law_1390 : decode cL_law 1390 = .ok (.iload 5, 2) := by decide +kernel
theorem dL_law_1392 : decode cL_law 1392 = .ok (.if_icmp .eq 5, 3) := by decide +kernel
theorem dL_law_1397 : decode cL_law 1397 = .ok (.iload 5, 2) := by decide +kernel
theorem dL_law_1399 : decode cL_law 1399 = .ok (.ifCond .ne 15, 3) := by decide +kernel
theorem dL_law_1414 : decode cL_law 1414 = .ok (.goto 865, 3) := by decide +kernel
theorem dL_law_1417 : decode cL_law 1417 = .ok (.aload_n 1, 1) := by decide +kernel
theorem dL_law_1418 : decode cL_law 1418 = .ok (.invokevirtual 198, 3) := by decide +kernel
theorem dL_law_1421 : decode cL_law 1421 = .ok (.aload_n 2, 1) := by decide +kernel
theorem dL_law_1422 : decode cL_law 1422 = .ok (.invokevirtual 201, 3) := by decide +kernel
theorem dL_law_1425 : decode cL_law 1425 = .ok (.if_icmp .eq 854, 3) := by decide +kernel
theorem dL_law_1430 : decode cL_law 1430 = .ok (.aload_n 1, 1) := by decide +kernel
theorem dL_law_1431 : decode cL_law 1431 = .ok (.invokevirtual 202, 3) := by decide +kernel
theorem dL_law_1434 : decode cL_law 1434 = .ok (.aload_n 2, 1) := by decide +kernel
theorem dL_law_1435 : decode cL_law 1435 = .ok (.invokevirtual 205, 3) := by decide +kernel
theorem dL_law_1438 : decode cL_law 1438 = .ok (.if_icmp .eq 841, 3) := by decide +kernel
theorem dL_law_1443 : decode cL_law 1443 = .ok (.aload_n 1, 1) := by decide +kernel
theorem dL_law_1444 : decode cL_law 1444 = .ok (.invokevirtual 206, 3) := by decide +kernel
theorem dL_law_1447 : decode cL_law 1447 = .ok (.aload_n 2, 1) := by decide +kernel
theorem dL_law_1448 : decode cL_law 1448 = .ok (.invokevirtual 209, 3) := by decide +kernel
theorem dL_law_1451 : decode cL_law 1451 = .ok (.if_icmp .eq 828, 3) := by decide +kernel
theorem dL_law_1456 : decode cL_law 1456 = .ok (.aload_n 1, 1) := by decide +kernel
theorem dL_law_1457 : decode cL_law 1457 = .ok (.aload_n 0, 1) := by decide +kernel
theorem dL_law_1458 : decode cL_law 1458 = .ok (.iload 4, 2) := by decide +kernel
theorem dL_law_1460 : decode cL_law 1460 = .ok (.iconst 1, 1) := by decide +kernel
theorem dL_law_1461 : decode cL_law 1461 = .ok (.iadd, 1) := by decide +kernel
theorem dL_law_1462 : decode cL_law 1462 = .ok (.iaload, 1) := by decide +kernel
theorem dL_law_1463 : decode cL_law 1463 = .ok (.aload_n 3, 1) := by decide +kernel
theorem dL_law_1464 : decode cL_law 1464 = .ok (.invokestatic 210, 3) := by decide +kernel
theorem dL_law_1467 : decode cL_law 1467 = .ok (.istore 5, 2) := by decide +kernel
theorem dL_law_1469 : decode cL_law 1469 = .ok (.aload_n 2, 1) := by decide +kernel
theorem dL_law_1470 : decode cL_law 1470 = .ok (.aload_n 0, 1) := by decide +kernel
theorem dL_law_1471 : decode cL_law 1471 = .ok (.iload 4, 2) := by decide +kernel
theorem dL_law_1473 : decode cL_law 1473 = .ok (.iconst 1, 1) := by decide +kernel
theorem dL_law_1474 : decode cL_law 1474 = .ok (.iadd, 1) := by decide +kernel
theorem dL_law_1475 : decode cL_law 1475 = .ok (.iaload, 1) := by decide +kernel
theorem dL_law_1476 : decode cL_law 1476 = .ok (.invokevirtual 212, 3) := by decide +kernel
theorem dL_law_1479 : decode cL_law 1479 = .ok (.istore 6, 2) := by decide +kernel
theorem dL_law_1481 : decode cL_law 1481 = .ok (.aload_n 2, 1) := by decide +kernel
theorem dL_law_1482 : decode cL_law 1482 = .ok (.invokevirtual 120, 3) := by decide +kernel
theorem dL_law_1485 : decode cL_law 1485 = .ok (.iload 5, 2) := by decide +kernel
theorem dL_law_1487 : decode cL_law 1487 = .ok (.if_icmp .eq 5, 3) := by decide +kernel
theorem dL_law_1492 : decode cL_law 1492 = .ok (.iload 5, 2) := by decide +kernel
theorem dL_law_1494 : decode cL_law 1494 = .ok (.ifCond .ne 15, 3) := by decide +kernel
theorem dL_law_1509 : decode cL_law 1509 = .ok (.goto 770, 3) := by decide +kernel
theorem dL_law_1512 : decode cL_law 1512 = .ok (.aload_n 1, 1) := by decide +kernel
theorem dL_law_1513 : decode cL_law 1513 = .ok (.aload_n 0, 1) := by decide +kernel
theorem dL_law_1514 : decode cL_law 1514 = .ok (.iload 4, 2) := by decide +kernel
theorem dL_law_1516 : decode cL_law 1516 = .ok (.iconst 1, 1) := by decide +kernel
theorem dL_law_1517 : decode cL_law 1517 = .ok (.iadd, 1) := by decide +kernel
theorem dL_law_1518 : decode cL_law 1518 = .ok (.iaload, 1) := by decide +kernel
theorem dL_law_1519 : decode cL_law 1519 = .ok (.aload_n 3, 1) := by decide +kernel
theorem dL_law_1520 : decode cL_law 1520 = .ok (.invokestatic 213, 3) := by decide +kernel
theorem dL_law_1523 : decode cL_law 1523 = .ok (.istore 5, 2) := by decide +kernel
theorem dL_law_1525 : decode cL_law 1525 = .ok (.aload_n 2, 1) := by decide +kernel
theorem dL_law_1526 : decode cL_law 1526 = .ok (.aload_n 0, 1) := by decide +kernel
theorem dL_law_1527 : decode cL_law 1527 = .ok (.iload 4, 2) := by decide +kernel
theorem dL_law_1529 : decode cL_law 1529 = .ok (.iconst 1, 1) := by decide +kernel
theorem dL_law_1530 : decode cL_law 1530 = .ok (.iadd, 1) := by decide +kernel
theorem dL_law_1531 : decode cL_law 1531 = .ok (.iaload, 1) := by decide +kernel
theorem dL_law_1532 : decode cL_law 1532 = .ok (.invokevirtual 215, 3) := by decide +kernel
theorem dL_law_1535 : decode cL_law 1535 = .ok (.istore 6, 2) := by decide +kernel
theorem dL_law_1537 : decode cL_law 1537 = .ok (.aload_n 2, 1) := by decide +kernel
theorem dL_law_1538 : decode cL_law 1538 = .ok (.invokevirtual 120, 3) := by decide +kernel
theorem dL_law_1541 : decode cL_law 1541 = .ok (.iload 5, 2) := by decide +kernel
theorem dL_law_1543 : decode cL_law 1543 = .ok (.if_icmp .eq 5, 3) := by decide +kernel
theorem dL_law_1548 : decode cL_law 1548 = .ok (.iload 5, 2) := by decide +kernel
theorem dL_law_1550 : decode cL_law 1550 = .ok (.ifCond .ne 15, 3) := by decide +kernel
theorem dL_law_1565 : decode cL_law 1565 = .ok (.goto 714, 3) := by decide +kernel
theorem dL_law_1568 : decode cL_law 1568 = .ok (.aload_n 1, 1) := by decide +kernel
theorem dL_law_1569 : decode cL_law 1569 = .ok (.invokevirtual 216, 3) := by decide +kernel
theorem dL_law_1572 : decode cL_law 1572 = .ok (.aload_n 2, 1) := by decide +kernel
theorem dL_law_1573 : decode cL_law 1573 = .ok (.invokevirtual 219, 3) := by decide +kernel
theorem dL_law_1576 : decode cL_law 1576 = .ok (.if_icmp .eq 703, 3) := by decide +kernel
theorem dL_law_1581 : decode cL_law 1581 = .ok (.aload_n 1, 1) := by decide +kernel
theorem dL_law_1582 : decode cL_law 1582 = .ok (.invokevirtual 220, 3) := by decide +kernel
theorem dL_law_1585 : decode cL_law 1585 = .ok (.aload_n 2, 1) := by decide +kernel
theorem dL_law_1586 : decode cL_law 1586 = .ok (.invokevirtual 223, 3) := by decide +kernel
theorem dL_law_1589 : decode cL_law 1589 = .ok (.if_icmp .eq 690, 3) := by decide +kernel
theorem dL_law_1594 : decode cL_law 1594 = .ok (.aload_n 1, 1) := by decide +kernel
theorem dL_law_1595 : decode cL_law 1595 = .ok (.aload_n 0, 1) := by decide +kernel
theorem dL_law_1596 : decode cL_law 1596 = .ok (.iload 4, 2) := by decide +kernel
theorem dL_law_1598 : decode cL_law 1598 = .ok (.iconst 1, 1) := by decide +kernel
theorem dL_law_1599 : decode cL_law 1599 = .ok (.iadd, 1) := by decide +kernel
theorem dL_law_1600 : decode cL_law 1600 = .ok (.iaload, 1) := by decide +kernel
theorem dL_law_1601 : decode cL_law 1601 = .ok (.aload_n 3, 1) := by decide +kernel
theorem dL_law_1602 : decode cL_law 1602 = .ok (.invokestatic 224, 3) := by decide +kernel
theorem dL_law_1605 : decode cL_law 1605 = .ok (.istore 5, 2) := by decide +kernel
theorem dL_law_1607 : decode cL_law 1607 = .ok (.aload_n 2, 1) := by decide +kernel
theorem dL_law_1608 : decode cL_law 1608 = .ok (.aload_n 0, 1) := by decide +kernel
theorem dL_law_1609 : decode cL_law 1609 = .ok (.iload 4, 2) := by decide +kernel
theorem dL_law_1611 : decode cL_law 1611 = .ok (.iconst 1, 1) := by decide +kernel
theorem dL_law_1612 : decode cL_law 1612 = .ok (.iadd, 1) := by decide +kernel
theorem dL_law_1613 : decode cL_law 1613 = .ok (.iaload, 1) := by decide +kernel
theorem dL_law_1614 : decode cL_law 1614 = .ok (.invokevirtual 226, 3) := by decide +kernel
theorem dL_law_1617 : decode cL_law 1617 = .ok (.istore 6, 2) := by decide +kernel
theorem dL_law_1619 : decode cL_law 1619 = .ok (.aload_n 2, 1) := by decide +kernel
theorem dL_law_1620 : decode cL_law 1620 = .ok (.invokevirtual 120, 3) := by decide +kernel
theorem dL_law_1623 : decode cL_law 1623 = .ok (.iload 5, 2) := by decide +kernel
theorem dL_law_1625 : decode cL_law 1625 = .ok (.if_icmp .eq 5, 3) := by decide +kernel
theorem dL_law_1630 : decode cL_law 1630 = .ok (.iload 5, 2) := by decide +kernel
theorem dL_law_1632 : decode cL_law 1632 = .ok (.ifCond .ne 15, 3) := by decide +kernel
theorem dL_law_1647 : decode cL_law 1647 = .ok (.goto 632, 3) := by decide +kernel
theorem dL_law_1650 : decode cL_law 1650 = .ok (.aload_n 1, 1) := by decide +kernel
theorem dL_law_1651 : decode cL_law 1651 = .ok (.invokevirtual 227, 3) := by decide +kernel
theorem dL_law_1654 : decode cL_law 1654 = .ok (.aload_n 2, 1) := by decide +kernel
theorem dL_law_1655 : decode cL_law 1655 = .ok (.invokevirtual 230, 3) := by decide +kernel
theorem dL_law_1658 : decode cL_law 1658 = .ok (.if_icmp .eq 621, 3) := by decide +kernel
theorem dL_law_1663 : decode cL_law 1663 = .ok (.aload_n 1, 1) := by decide +kernel
theorem dL_law_1664 : decode cL_law 1664 = .ok (.aload_n 0, 1) := by decide +kernel
theorem dL_law_1665 : decode cL_law 1665 = .ok (.iload 4, 2) := by decide +kernel
theorem dL_law_1667 : decode cL_law 1667 = .ok (.iconst 1, 1) := by decide +kernel
theorem dL_law_1668 : decode cL_law 1668 = .ok (.iadd, 1) := by decide +kernel
theorem dL_law_1669 : decode cL_law 1669 = .ok (.iaload, 1) := by decide +kernel
theorem dL_law_1670 : decode cL_law 1670 = .ok (.aload_n 3, 1) := by decide +kernel
theorem dL_law_1671 : decode cL_law 1671 = .ok (.invokestatic 231, 3) := by decide +kernel
theorem dL_law_1674 : decode cL_law 1674 = .ok (.istore 5, 2) := by decide +kernel
theorem dL_law_1676 : decode cL_law 1676 = .ok (.aload_n 2, 1) := by decide +kernel
theorem dL_law_1677 : decode cL_law 1677 = .ok (.aload_n 0, 1) := by decide +kernel
theorem dL_law_1678 : decode cL_law 1678 = .ok (.iload 4, 2) := by decide +kernel
theorem dL_law_1680 : decode cL_law 1680 = .ok (.iconst 1, 1) := by decide +kernel
theorem dL_law_1681 : decode cL_law 1681 = .ok (.iadd, 1) := by decide +kernel
theorem dL_law_1682 : decode cL_law 1682 = .ok (.iaload, 1) := by decide +kernel
theorem dL_law_1683 : decode cL_law 1683 = .ok (.invokevirtual 233, 3) := by decide +kernel
theorem dL_law_1686 : decode cL_law 1686 = .ok (.istore 6, 2) := by decide +kernel
theorem dL_law_1688 : decode cL_law 1688 = .ok (.aload_n 2, 1) := by decide +kernel
theorem dL_law_1689 : decode cL_law 1689 = .ok (.invokevirtual 120, 3) := by decide +kernel
theorem dL_law_1692 : decode cL_law 1692 = .ok (.iload 5, 2) := by decide +kernel
theorem dL_law_1694 : decode cL_law 1694 = .ok (.if_icmp .eq 5, 3) := by decide +kernel
theorem dL_law_1699 : decode cL_law 1699 = .ok (.iload 5, 2) := by decide +kernel
theorem dL_law_1701 : decode cL_law 1701 = .ok (.ifCond .ne 15, 3) := by decide +kernel
theorem dL_law_1716 : decode cL_law 1716 = .ok (.goto 563, 3) := by decide +kernel
theorem dL_law_1719 : decode cL_law 1719 = .ok (.aload_n 1, 1) := by decide +kernel
theorem dL_law_1720 : decode cL_law 1720 = .ok (.aload_n 0, 1) := by decide +kernel
theorem dL_law_1721 : decode cL_law 1721 = .ok (.iload 4, 2) := by decide +kernel
theorem dL_law_1723 : decode cL_law 1723 = .ok (.iconst 1, 1) := by decide +kernel
theorem dL_law_1724 : decode cL_law 1724 = .ok (.iadd, 1) := by decide +kernel
theorem dL_law_1725 : decode cL_law 1725 = .ok (.iaload, 1) := by decide +kernel
theorem dL_law_1726 : decode cL_law 1726 = .ok (.aload_n 3, 1) := by decide +kernel
theorem dL_law_1727 : decode cL_law 1727 = .ok (.invokestatic 234, 3) := by decide +kernel
theorem dL_law_1730 : decode cL_law 1730 = .ok (.istore 5, 2) := by decide +kernel
theorem dL_law_1732 : decode cL_law 1732 = .ok (.aload_n 2, 1) := by decide +kernel
theorem dL_law_1733 : decode cL_law 1733 = .ok (.aload_n 0, 1) := by decide +kernel
theorem dL_law_1734 : decode cL_law 1734 = .ok (.iload 4, 2) := by decide +kernel
theorem dL_law_1736 : decode cL_law 1736 = .ok (.iconst 1, 1) := by decide +kernel
theorem dL_law_1737 : decode cL_law 1737 = .ok (.iadd, 1) := by decide +kernel
theorem dL_law_1738 : decode cL_law 1738 = .ok (.iaload, 1) := by decide +kernel
theorem dL_law_1739 : decode cL_law 1739 = .ok (.invokevirtual 236, 3) := by decide +kernel
theorem dL_law_1742 : decode cL_law 1742 = .ok (.istore 6, 2) := by decide +kernel
theorem dL_law_1744 : decode cL_law 1744 = .ok (.aload_n 2, 1) := by decide +kernel
theorem dL_law_1745 : decode cL_law 1745 = .ok (.invokevirtual 120, 3) := by decide +kernel
theorem dL_law_1748 : decode cL_law 1748 = .ok (.iload 5, 2) := by decide +kernel
theorem dL_law_1750 : decode cL_law 1750 = .ok (.if_icmp .eq 5, 3) := by decide +kernel
theorem dL_law_1755 : decode cL_law 1755 = .ok (.iload 5, 2) := by decide +kernel
theorem dL_law_1757 : decode cL_law 1757 = .ok (.ifCond .ne 22, 3) := by decide +kernel
theorem dL_law_1779 : decode cL_law 1779 = .ok (.goto 500, 3) := by decide +kernel
theorem dL_law_1782 : decode cL_law 1782 = .ok (.aload_n 1, 1) := by decide +kernel
theorem dL_law_1783 : decode cL_law 1783 = .ok (.aload_n 0, 1) := by decide +kernel
theorem dL_law_1784 : decode cL_law 1784 = .ok (.iload 4, 2) := by decide +kernel
theorem dL_law_1786 : decode cL_law 1786 = .ok (.iconst 1, 1) := by decide +kernel
theorem dL_law_1787 : decode cL_law 1787 = .ok (.iadd, 1) := by decide +kernel
theorem dL_law_1788 : decode cL_law 1788 = .ok (.iaload, 1) := by decide +kernel
theorem dL_law_1789 : decode cL_law 1789 = .ok (.aload_n 3, 1) := by decide +kernel
theorem dL_law_1790 : decode cL_law 1790 = .ok (.invokestatic 237, 3) := by decide +kernel
theorem dL_law_1793 : decode cL_law 1793 = .ok (.istore 5, 2) := by decide +kernel
theorem dL_law_1795 : decode cL_law 1795 = .ok (.aload_n 2, 1) := by decide +kernel
theorem dL_law_1796 : decode cL_law 1796 = .ok (.aload_n 0, 1) := by decide +kernel
theorem dL_law_1797 : decode cL_law 1797 = .ok (.iload 4, 2) := by decide +kernel
theorem dL_law_1799 : decode cL_law 1799 = .ok (.iconst 1, 1) := by decide +kernel
theorem dL_law_1800 : decode cL_law 1800 = .ok (.iadd, 1) := by decide +kernel
theorem dL_law_1801 : decode cL_law 1801 = .ok (.iaload, 1) := by decide +kernel
theorem dL_law_1802 : decode cL_law 1802 = .ok (.invokevirtual 239, 3) := by decide +kernel
theorem dL_law_1805 : decode cL_law 1805 = .ok (.istore 6, 2) := by decide +kernel
theorem dL_law_1807 : decode cL_law 1807 = .ok (.aload_n 2, 1) := by decide +kernel
theorem dL_law_1808 : decode cL_law 1808 = .ok (.invokevirtual 120, 3) := by decide +kernel
theorem dL_law_1811 : decode cL_law 1811 = .ok (.iload 5, 2) := by decide +kernel
theorem dL_law_1813 : decode cL_law 1813 = .ok (.if_icmp .eq 5, 3) := by decide +kernel
theorem dL_law_1818 : decode cL_law 1818 = .ok (.iload 5, 2) := by decide +kernel
theorem dL_law_1820 : decode cL_law 1820 = .ok (.ifCond .ne 15, 3) := by decide +kernel
theorem dL_law_1835 : decode cL_law 1835 = .ok (.goto 444, 3) := by decide +kernel
theorem dL_law_1838 : decode cL_law 1838 = .ok (.aload_n 1, 1) := by decide +kernel
theorem dL_law_1839 : decode cL_law 1839 = .ok (.aload_n 0, 1) := by decide +kernel
theorem dL_law_1840 : decode cL_law 1840 = .ok (.iload 4, 2) := by decide +kernel
theorem dL_law_1842 : decode cL_law 1842 = .ok (.iconst 1, 1) := by decide +kernel
theorem dL_law_1843 : decode cL_law 1843 = .ok (.iadd, 1) := by decide +kernel
theorem dL_law_1844 : decode cL_law 1844 = .ok (.iaload, 1) := by decide +kernel
theorem dL_law_1845 : decode cL_law 1845 = .ok (.aload_n 0, 1) := by decide +kernel
theorem dL_law_1846 : decode cL_law 1846 = .ok (.iload 4, 2) := by decide +kernel
theorem dL_law_1848 : decode cL_law 1848 = .ok (.iconst 2, 1) := by decide +kernel
theorem dL_law_1849 : decode cL_law 1849 = .ok (.iadd, 1) := by decide +kernel
theorem dL_law_1850 : decode cL_law 1850 = .ok (.iaload, 1) := by decide +kernel
theorem dL_law_1851 : decode cL_law 1851 = .ok (.aload_n 3, 1) := by decide +kernel
theorem dL_law_1852 : decode cL_law 1852 = .ok (.invokestatic 240, 3) := by decide +kernel
theorem dL_law_1855 : decode cL_law 1855 = .ok (.istore 5, 2) := by decide +kernel
theorem dL_law_1857 : decode cL_law 1857 = .ok (.aload_n 2, 1) := by decide +kernel
theorem dL_law_1858 : decode cL_law 1858 = .ok (.aload_n 0, 1) := by decide +kernel
theorem dL_law_1859 : decode cL_law 1859 = .ok (.iload 4, 2) := by decide +kernel
theorem dL_law_1861 : decode cL_law 1861 = .ok (.iconst 1, 1) := by decide +kernel
theorem dL_law_1862 : decode cL_law 1862 = .ok (.iadd, 1) := by decide +kernel
theorem dL_law_1863 : decode cL_law 1863 = .ok (.iaload, 1) := by decide +kernel
theorem dL_law_1864 : decode cL_law 1864 = .ok (.aload_n 0, 1) := by decide +kernel
theorem dL_law_1865 : decode cL_law 1865 = .ok (.iload 4, 2) := by decide +kernel
theorem dL_law_1867 : decode cL_law 1867 = .ok (.iconst 2, 1) := by decide +kernel
theorem dL_law_1868 : decode cL_law 1868 = .ok (.iadd, 1) := by decide +kernel
theorem dL_law_1869 : decode cL_law 1869 = .ok (.iaload, 1) := by decide +kernel
theorem dL_law_1870 : decode cL_law 1870 = .ok (.invokevirtual 242, 3) := by decide +kernel
theorem dL_law_1873 : decode cL_law 1873 = .ok (.istore 6, 2) := by decide +kernel
theorem dL_law_1875 : decode cL_law 1875 = .ok (.aload_n 2, 1) := by decide +kernel
theorem dL_law_1876 : decode cL_law 1876 = .ok (.invokevirtual 120, 3) := by decide +kernel
theorem dL_law_1879 : decode cL_law 1879 = .ok (.iload 5, 2) := by decide +kernel
theorem dL_law_1881 : decode cL_law 1881 = .ok (.if_icmp .eq 5, 3) := by decide +kernel
theorem dL_law_1886 : decode cL_law 1886 = .ok (.iload 5, 2) := by decide +kernel
theorem dL_law_1888 : decode cL_law 1888 = .ok (.ifCond .ne 15, 3) := by decide +kernel
theorem dL_law_1903 : decode cL_law 1903 = .ok (.goto 376, 3) := by decide +kernel
theorem dL_law_1906 : decode cL_law 1906 = .ok (.aload_n 1, 1) := by decide +kernel
theorem dL_law_1907 : decode cL_law 1907 = .ok (.aload_n 0, 1) := by decide +kernel
theorem dL_law_1908 : decode cL_law 1908 = .ok (.iload 4, 2) := by decide +kernel
theorem dL_law_1910 : decode cL_law 1910 = .ok (.iconst 1, 1) := by decide +kernel
theorem dL_law_1911 : decode cL_law 1911 = .ok (.iadd, 1) := by decide +kernel
theorem dL_law_1912 : decode cL_law 1912 = .ok (.iaload, 1) := by decide +kernel
theorem dL_law_1913 : decode cL_law 1913 = .ok (.aload_n 3, 1) := by decide +kernel
theorem dL_law_1914 : decode cL_law 1914 = .ok (.invokestatic 243, 3) := by decide +kernel
theorem dL_law_1917 : decode cL_law 1917 = .ok (.istore 5, 2) := by decide +kernel
theorem dL_law_1919 : decode cL_law 1919 = .ok (.aload_n 2, 1) := by decide +kernel
theorem dL_law_1920 : decode cL_law 1920 = .ok (.aload_n 0, 1) := by decide +kernel
theorem dL_law_1921 : decode cL_law 1921 = .ok (.iload 4, 2) := by decide +kernel
theorem dL_law_1923 : decode cL_law 1923 = .ok (.iconst 1, 1) := by decide +kernel
theorem dL_law_1924 : decode cL_law 1924 = .ok (.iadd, 1) := by decide +kernel
theorem dL_law_1925 : decode cL_law 1925 = .ok (.iaload, 1) := by decide +kernel
theorem dL_law_1926 : decode cL_law 1926 = .ok (.invokevirtual 245, 3) := by decide +kernel
theorem dL_law_1929 : decode cL_law 1929 = .ok (.istore 6, 2) := by decide +kernel
theorem dL_law_1931 : decode cL_law 1931 = .ok (.aload_n 2, 1) := by decide +kernel
theorem dL_law_1932 : decode cL_law 1932 = .ok (.invokevirtual 120, 3) := by decide +kernel
theorem dL_law_1935 : decode cL_law 1935 = .ok (.iload 5, 2) := by decide +kernel
theorem dL_law_1937 : decode cL_law 1937 = .ok (.if_icmp .eq 5, 3) := by decide +kernel
theorem dL_law_1942 : decode cL_law 1942 = .ok (.iload 5, 2) := by decide +kernel
theorem dL_law_1944 : decode cL_law 1944 = .ok (.ifCond .ne 15, 3) := by decide +kernel
theorem dL_law_1959 : decode cL_law 1959 = .ok (.goto 320, 3) := by decide +kernel
theorem dL_law_1962 : decode cL_law 1962 = .ok (.aload_n 1, 1) := by decide +kernel
theorem dL_law_1963 : decode cL_law 1963 = .ok (.aload_n 0, 1) := by decide +kernel
theorem dL_law_1964 : decode cL_law 1964 = .ok (.iload 4, 2) := by decide +kernel
theorem dL_law_1966 : decode cL_law 1966 = .ok (.iconst 1, 1) := by decide +kernel
theorem dL_law_1967 : decode cL_law 1967 = .ok (.iadd, 1) := by decide +kernel
theorem dL_law_1968 : decode cL_law 1968 = .ok (.iaload, 1) := by decide +kernel
theorem dL_law_1969 : decode cL_law 1969 = .ok (.aload_n 3, 1) := by decide +kernel
theorem dL_law_1970 : decode cL_law 1970 = .ok (.invokestatic 246, 3) := by decide +kernel
theorem dL_law_1973 : decode cL_law 1973 = .ok (.istore 5, 2) := by decide +kernel
theorem dL_law_1975 : decode cL_law 1975 = .ok (.aload_n 2, 1) := by decide +kernel
theorem dL_law_1976 : decode cL_law 1976 = .ok (.aload_n 0, 1) := by decide +kernel
theorem dL_law_1977 : decode cL_law 1977 = .ok (.iload 4, 2) := by decide +kernel
theorem dL_law_1979 : decode cL_law 1979 = .ok (.iconst 1, 1) := by decide +kernel
theorem dL_law_1980 : decode cL_law 1980 = .ok (.iadd, 1) := by decide +kernel
theorem dL_law_1981 : decode cL_law 1981 = .ok (.iaload, 1) := by decide +kernel
theorem dL_law_1982 : decode cL_law 1982 = .ok (.invokevirtual 248, 3) := by decide +kernel
theorem dL_law_1985 : decode cL_law 1985 = .ok (.istore 6, 2) := by decide +kernel
theorem dL_law_1987 : decode cL_law 1987 = .ok (.aload_n 2, 1) := by decide +kernel
theorem dL_law_1988 : decode cL_law 1988 = .ok (.invokevirtual 120, 3) := by decide +kernel
theorem dL_law_1991 : decode cL_law 1991 = .ok (.iload 5, 2) := by decide +kernel
theorem dL_law_1993 : decode cL_law 1993 = .ok (.if_icmp .eq 5, 3) := by decide +kernel
theorem dL_law_1998 : decode cL_law 1998 = .ok (.iload 5, 2) := by decide +kernel
theorem dL_law_2000 : decode cL_law 2000 = .ok (.ifCond .ne 15, 3) := by decide +kernel
theorem dL_law_2015 : decode cL_law 2015 = .ok (.goto 264, 3) := by decide +kernel
theorem dL_law_2018 : decode cL_law 2018 = .ok (.aload_n 1, 1) := by decide +kernel
theorem dL_law_2019 : decode cL_law 2019 = .ok (.aload_n 0, 1) := by decide +kernel
theorem dL_law_2020 : decode cL_law 2020 = .ok (.iload 4, 2) := by decide +kernel
theorem dL_law_2022 : decode cL_law 2022 = .ok (.iconst 1, 1) := by decide +kernel
theorem dL_law_2023 : decode cL_law 2023 = .ok (.iadd, 1) := by decide +kernel
theorem dL_law_2024 : decode cL_law 2024 = .ok (.iaload, 1) := by decide +kernel
theorem dL_law_2025 : decode cL_law 2025 = .ok (.aload_n 0, 1) := by decide +kernel
theorem dL_law_2026 : decode cL_law 2026 = .ok (.iload 4, 2) := by decide +kernel
theorem dL_law_2028 : decode cL_law 2028 = .ok (.iconst 2, 1) := by decide +kernel
theorem dL_law_2029 : decode cL_law 2029 = .ok (.iadd, 1) := by decide +kernel
theorem dL_law_2030 : decode cL_law 2030 = .ok (.iaload, 1) := by decide +kernel
theorem dL_law_2031 : decode cL_law 2031 = .ok (.aload_n 3, 1) := by decide +kernel
theorem dL_law_2032 : decode cL_law 2032 = .ok (.invokestatic 249, 3) := by decide +kernel
theorem dL_law_2035 : decode cL_law 2035 = .ok (.istore 5, 2) := by decide +kernel
theorem dL_law_2037 : decode cL_law 2037 = .ok (.aload_n 2, 1) := by decide +kernel
theorem dL_law_2038 : decode cL_law 2038 = .ok (.aload_n 0, 1) := by decide +kernel
theorem dL_law_2039 : decode cL_law 2039 = .ok (.iload 4, 2) := by decide +kernel
theorem dL_law_2041 : decode cL_law 2041 = .ok (.iconst 1, 1) := by decide +kernel
theorem dL_law_2042 : decode cL_law 2042 = .ok (.iadd, 1) := by decide +kernel
theorem dL_law_2043 : decode cL_law 2043 = .ok (.iaload, 1) := by decide +kernel
theorem dL_law_2044 : decode cL_law 2044 = .ok (.aload_n 0, 1) := by decide +kernel
theorem dL_law_2045 : decode cL_law 2045 = .ok (.iload 4, 2) := by decide +kernel
theorem dL_law_2047 : decode cL_law 2047 = .ok (.iconst 2, 1) := by decide +kernel
theorem dL_law_2048 : decode cL_law 2048 = .ok (.iadd, 1) := by decide +kernel
theorem dL_law_2049 : decode cL_law 2049 = .ok (.iaload, 1) := by decide +kernel
theorem dL_law_2050 : decode cL_law 2050 = .ok (.invokevirtual 251, 3) := by decide +kernel
theorem dL_law_2053 : decode cL_law 2053 = .ok (.istore 6, 2) := by decide +kernel
theorem dL_law_2055 : decode cL_law 2055 = .ok (.aload_n 2, 1) := by decide +kernel
theorem dL_law_2056 : decode cL_law 2056 = .ok (.invokevirtual 120, 3) := by decide +kernel
theorem dL_law_2059 : decode cL_law 2059 = .ok (.iload 5, 2) := by decide +kernel
theorem dL_law_2061 : decode cL_law 2061 = .ok (.if_icmp .eq 5, 3) := by decide +kernel
theorem dL_law_2066 : decode cL_law 2066 = .ok (.iload 5, 2) := by decide +kernel
theorem dL_law_2068 : decode cL_law 2068 = .ok (.ifCond .ne 15, 3) := by decide +kernel
theorem dL_law_2083 : decode cL_law 2083 = .ok (.goto 196, 3) := by decide +kernel
theorem dL_law_2086 : decode cL_law 2086 = .ok (.aload_n 1, 1) := by decide +kernel
theorem dL_law_2087 : decode cL_law 2087 = .ok (.invokevirtual 252, 3) := by decide +kernel
theorem dL_law_2090 : decode cL_law 2090 = .ok (.aload_n 2, 1) := by decide +kernel
theorem dL_law_2091 : decode cL_law 2091 = .ok (.invokevirtual 255, 3) := by decide +kernel
theorem dL_law_2094 : decode cL_law 2094 = .ok (.if_icmp .eq 185, 3) := by decide +kernel
theorem dL_law_2099 : decode cL_law 2099 = .ok (.aload_n 1, 1) := by decide +kernel
theorem dL_law_2100 : decode cL_law 2100 = .ok (.aload_n 0, 1) := by decide +kernel
theorem dL_law_2101 : decode cL_law 2101 = .ok (.iload 4, 2) := by decide +kernel
theorem dL_law_2103 : decode cL_law 2103 = .ok (.iconst 1, 1) := by decide +kernel
theorem dL_law_2104 : decode cL_law 2104 = .ok (.iadd, 1) := by decide +kernel
theorem dL_law_2105 : decode cL_law 2105 = .ok (.iaload, 1) := by decide +kernel
theorem dL_law_2106 : decode cL_law 2106 = .ok (.aload_n 3, 1) := by decide +kernel
theorem dL_law_2107 : decode cL_law 2107 = .ok (.invokestatic 256, 3) := by decide +kernel
theorem dL_law_2110 : decode cL_law 2110 = .ok (.istore 5, 2) := by decide +kernel
theorem dL_law_2112 : decode cL_law 2112 = .ok (.aload_n 2, 1) := by decide +kernel
theorem dL_law_2113 : decode cL_law 2113 = .ok (.aload_n 0, 1) := by decide +kernel
theorem dL_law_2114 : decode cL_law 2114 = .ok (.iload 4, 2) := by decide +kernel
theorem dL_law_2116 : decode cL_law 2116 = .ok (.iconst 1, 1) := by decide +kernel
theorem dL_law_2117 : decode cL_law 2117 = .ok (.iadd, 1) := by decide +kernel
theorem dL_law_2118 : decode cL_law 2118 = .ok (.iaload, 1) := by decide +kernel
theorem dL_law_2119 : decode cL_law 2119 = .ok (.invokevirtual 258, 3) := by decide +kernel
theorem dL_law_2122 : decode cL_law 2122 = .ok (.istore 6, 2) := by decide +kernel
theorem dL_law_2124 : decode cL_law 2124 = .ok (.aload_n 2, 1) := by decide +kernel
theorem dL_law_2125 : decode cL_law 2125 = .ok (.invokevirtual 120, 3) := by decide +kernel
theorem dL_law_2128 : decode cL_law 2128 = .ok (.iload 5, 2) := by decide +kernel
theorem dL_law_2130 : decode cL_law 2130 = .ok (.if_icmp .eq 5, 3) := by decide +kernel
theorem dL_law_2135 : decode cL_law 2135 = .ok (.iload 5, 2) := by decide +kernel
theorem dL_law_2137 : decode cL_law 2137 = .ok (.ifCond .ne 15, 3) := by decide +kernel
theorem dL_law_2140 : decode cL_law 2140 = .ok (.aload_n 3, 1) := by decide +kernel
theorem dL_law_2141 : decode cL_law 2141 = .ok (.iconst 0, 1) := by decide +kernel
theorem dL_law_2142 : decode cL_law 2142 = .ok (.laload, 1) := by decide +kernel
theorem dL_law_2143 : decode cL_law 2143 = .ok (.iload 6, 2) := by decide +kernel
theorem dL_law_2145 : decode cL_law 2145 = .ok (.i2l, 1) := by decide +kernel
theorem dL_law_2146 : decode cL_law 2146 = .ok (.lcmp, 1) := by decide +kernel
theorem dL_law_2147 : decode cL_law 2147 = .ok (.ifCond .eq 5, 3) := by decide +kernel
theorem dL_law_2152 : decode cL_law 2152 = .ok (.goto 127, 3) := by decide +kernel
theorem dL_law_2155 : decode cL_law 2155 = .ok (.aload_n 1, 1) := by decide +kernel
theorem dL_law_2156 : decode cL_law 2156 = .ok (.aload_n 0, 1) := by decide +kernel
theorem dL_law_2157 : decode cL_law 2157 = .ok (.iload 4, 2) := by decide +kernel
theorem dL_law_2159 : decode cL_law 2159 = .ok (.iconst 1, 1) := by decide +kernel
theorem dL_law_2160 : decode cL_law 2160 = .ok (.iadd, 1) := by decide +kernel
theorem dL_law_2161 : decode cL_law 2161 = .ok (.iaload, 1) := by decide +kernel
theorem dL_law_2162 : decode cL_law 2162 = .ok (.aload_n 3, 1) := by decide +kernel
theorem dL_law_2163 : decode cL_law 2163 = .ok (.invokestatic 259, 3) := by decide +kernel
theorem dL_law_2166 : decode cL_law 2166 = .ok (.istore 5, 2) := by decide +kernel
theorem dL_law_2168 : decode cL_law 2168 = .ok (.aload_n 2, 1) := by decide +kernel
theorem dL_law_2169 : decode cL_law 2169 = .ok (.aload_n 0, 1) := by decide +kernel
theorem dL_law_2170 : decode cL_law 2170 = .ok (.iload 4, 2) := by decide +kernel
theorem dL_law_2172 : decode cL_law 2172 = .ok (.iconst 1, 1) := by decide +kernel
theorem dL_law_2173 : decode cL_law 2173 = .ok (.iadd, 1) := by decide +kernel
theorem dL_law_2174 : decode cL_law 2174 = .ok (.iaload, 1) := by decide +kernel
theorem dL_law_2175 : decode cL_law 2175 = .ok (.invokevirtual 261, 3) := by decide +kernel
theorem dL_law_2178 : decode cL_law 2178 = .ok (.istore 6, 2) := by decide +kernel
theorem dL_law_2180 : decode cL_law 2180 = .ok (.aload_n 2, 1) := by decide +kernel
theorem dL_law_2181 : decode cL_law 2181 = .ok (.invokevirtual 120, 3) := by decide +kernel
theorem dL_law_2184 : decode cL_law 2184 = .ok (.iload 5, 2) := by decide +kernel
theorem dL_law_2186 : decode cL_law 2186 = .ok (.if_icmp .eq 5, 3) := by decide +kernel
theorem dL_law_2191 : decode cL_law 2191 = .ok (.iload 5, 2) := by decide +kernel
theorem dL_law_2193 : decode cL_law 2193 = .ok (.ifCond .ne 15, 3) := by decide +kernel
theorem dL_law_2196 : decode cL_law 2196 = .ok (.aload_n 3, 1) := by decide +kernel
theorem dL_law_2197 : decode cL_law 2197 = .ok (.iconst 0, 1) := by decide +kernel
theorem dL_law_2198 : decode cL_law 2198 = .ok (.laload, 1) := by decide +kernel
theorem dL_law_2199 : decode cL_law 2199 = .ok (.iload 6, 2) := by decide +kernel
theorem dL_law_2201 : decode cL_law 2201 = .ok (.i2l, 1) := by decide +kernel
theorem dL_law_2202 : decode cL_law 2202 = .ok (.lcmp, 1) := by decide +kernel
theorem dL_law_2203 : decode cL_law 2203 = .ok (.ifCond .eq 5, 3) := by decide +kernel
theorem dL_law_2208 : decode cL_law 2208 = .ok (.goto 71, 3) := by decide +kernel
theorem dL_law_2211 : decode cL_law 2211 = .ok (.aload_n 1, 1) := by decide +kernel
theorem dL_law_2212 : decode cL_law 2212 = .ok (.invokevirtual 262, 3) := by decide +kernel
theorem dL_law_2215 : decode cL_law 2215 = .ok (.aload_n 2, 1) := by decide +kernel
theorem dL_law_2216 : decode cL_law 2216 = .ok (.invokevirtual 265, 3) := by decide +kernel
theorem dL_law_2219 : decode cL_law 2219 = .ok (.if_icmp .eq 60, 3) := by decide +kernel
theorem dL_law_2224 : decode cL_law 2224 = .ok (.aload_n 1, 1) := by decide +kernel
theorem dL_law_2225 : decode cL_law 2225 = .ok (.invokevirtual 266, 3) := by decide +kernel
theorem dL_law_2228 : decode cL_law 2228 = .ok (.dstore 5, 2) := by decide +kernel
theorem dL_law_2230 : decode cL_law 2230 = .ok (.aload_n 2, 1) := by decide +kernel
theorem dL_law_2231 : decode cL_law 2231 = .ok (.invokevirtual 270, 3) := by decide +kernel
theorem dL_law_2234 : decode cL_law 2234 = .ok (.dstore 7, 2) := by decide +kernel
theorem dL_law_2236 : decode cL_law 2236 = .ok (.dload 5, 2) := by decide +kernel
theorem dL_law_2238 : decode cL_law 2238 = .ok (.dload 7, 2) := by decide +kernel
theorem dL_law_2240 : decode cL_law 2240 = .ok (.dcmp .l, 1) := by decide +kernel
theorem dL_law_2241 : decode cL_law 2241 = .ok (.ifCond .eq 21, 3) := by decide +kernel
theorem dL_law_2262 : decode cL_law 2262 = .ok (.goto 17, 3) := by decide +kernel
theorem dL_law_2265 : decode cL_law 2265 = .ok (.aload_n 1, 1) := by decide +kernel
theorem dL_law_2266 : decode cL_law 2266 = .ok (.invokevirtual 271, 3) := by decide +kernel
theorem dL_law_2269 : decode cL_law 2269 = .ok (.aload_n 2, 1) := by decide +kernel
theorem dL_law_2270 : decode cL_law 2270 = .ok (.invokevirtual 275, 3) := by decide +kernel
theorem dL_law_2273 : decode cL_law 2273 = .ok (.lcmp, 1) := by decide +kernel
theorem dL_law_2274 : decode cL_law 2274 = .ok (.ifCond .eq 5, 3) := by decide +kernel
theorem mw_662 : Cond.codeWith yL_insert cL_insert 6 (some Jvm.ClassFile.FieldType.int) [((0), (12), (15), (13)), ((0), (12), (19), (15))] ∈ GW := gw_mem (inT3 _ (List.mem_of_getElem? (i := 226) rfl)) rfl
theorem mw_663 : Cond.methodLink RL 114 yL_insert ∈ GW := gw_mem (inT3 _ (List.mem_of_getElem? (i := 224) rfl)) rfl
theorem mw_664 : Cond.static yL_insert ∈ GW := gw_mem (inT3 _ (List.mem_of_getElem? (i := 225) rfl)) rfl
theorem mw_665 : Cond.initialized RL ∈ GW := gw_mem (inT1 _ (List.mem_of_getElem? (i := 0) rfl)) rfl
theorem mw_666 : Cond.code yX8_insert cX8_insert 5 (some Jvm.ClassFile.FieldType.int) ∈ GW := gw_mem (inT6 _ (List.mem_of_getElem? (i := 27) rfl)) rfl
theorem mw_667 : Cond.methodLink RL 119 yX8_insert ∈ GW := gw_mem (inT6 _ (List.mem_of_getElem? (i := 24) rfl)) rfl
theorem mw_668 : Cond.instanceMethod yX8_insert ∈ GW := gw_mem (inT6 _ (List.mem_of_getElem? (i := 25) rfl)) rfl
theorem mw_669 : Cond.selects RX8 yX8_insert yX8_insert ∈ GW := gw_mem (inT6 _ (List.mem_of_getElem? (i := 26) rfl)) rfl
theorem mw_670 : Cond.code yX8_thrown cX8_thrown 1 (some Jvm.ClassFile.FieldType.int) ∈ GW := gw_mem (inT6 _ (List.mem_of_getElem? (i := 23) rfl)) rfl
theorem mw_671 : Cond.methodLink RL 120 yX8_thrown ∈ GW := gw_mem (inT6 _ (List.mem_of_getElem? (i := 20) rfl)) rfl
theorem mw_672 : Cond.instanceMethod yX8_thrown ∈ GW := gw_mem (inT6 _ (List.mem_of_getElem? (i := 21) rfl)) rfl
theorem mw_673 : Cond.selects RX8 yX8_thrown yX8_thrown ∈ GW := gw_mem (inT6 _ (List.mem_of_getElem? (i := 22) rfl)) rfl
theorem mw_674 : Cond.codeWith yL_remove cL_remove 4 (some Jvm.ClassFile.FieldType.int) [((0), (9), (12), (21))] ∈ GW := gw_mem (inT4 _ (List.mem_of_getElem? (i := 106) rfl)) rfl
theorem mw_675 : Cond.methodLink RL 124 yL_remove ∈ GW := gw_mem (inT4 _ (List.mem_of_getElem? (i := 104) rfl)) rfl
theorem mw_676 : Cond.static yL_remove ∈ GW := gw_mem (inT4 _ (List.mem_of_getElem? (i := 105) rfl)) rfl
theorem mw_677 : Cond.code yX8_remove cX8_remove 3 (some Jvm.ClassFile.FieldType.int) ∈ GW := gw_mem (inT6 _ (List.mem_of_getElem? (i := 49) rfl)) rfl
theorem mw_678 : Cond.methodLink RL 127 yX8_remove ∈ GW := gw_mem (inT6 _ (List.mem_of_getElem? (i := 46) rfl)) rfl
theorem mw_679 : Cond.instanceMethod yX8_remove ∈ GW := gw_mem (inT6 _ (List.mem_of_getElem? (i := 47) rfl)) rfl
theorem mw_680 : Cond.selects RX8 yX8_remove yX8_remove ∈ GW := gw_mem (inT6 _ (List.mem_of_getElem? (i := 48) rfl)) rfl
theorem mw_681 : Cond.codeWith yL_setTarget cL_setTarget 5 (some Jvm.ClassFile.FieldType.int) [((0), (10), (13), (21)), ((0), (10), (17), (13))] ∈ GW := gw_mem (inT4 _ (List.mem_of_getElem? (i := 138) rfl)) rfl
theorem mw_682 : Cond.methodLink RL 128 yL_setTarget ∈ GW := gw_mem (inT4 _ (List.mem_of_getElem? (i := 136) rfl)) rfl
theorem mw_683 : Cond.static yL_setTarget ∈ GW := gw_mem (inT4 _ (List.mem_of_getElem? (i := 137) rfl)) rfl
theorem mw_684 : Cond.code yX8_setTarget cX8_setTarget 4 (some Jvm.ClassFile.FieldType.int) ∈ GW := gw_mem (inT6 _ (List.mem_of_getElem? (i := 57) rfl)) rfl
theorem mw_685 : Cond.methodLink RL 131 yX8_setTarget ∈ GW := gw_mem (inT6 _ (List.mem_of_getElem? (i := 54) rfl)) rfl
theorem mw_686 : Cond.instanceMethod yX8_setTarget ∈ GW := gw_mem (inT6 _ (List.mem_of_getElem? (i := 55) rfl)) rfl
theorem mw_687 : Cond.selects RX8 yX8_setTarget yX8_setTarget ∈ GW := gw_mem (inT6 _ (List.mem_of_getElem? (i := 56) rfl)) rfl
theorem mw_688 : Cond.codeWith yL_setUse cL_setUse 6 (some Jvm.ClassFile.FieldType.int) [((0), (12), (15), (21)), ((0), (12), (19), (13))] ∈ GW := gw_mem (inT4 _ (List.mem_of_getElem? (i := 147) rfl)) rfl
theorem mw_689 : Cond.methodLink RL 132 yL_setUse ∈ GW := gw_mem (inT4 _ (List.mem_of_getElem? (i := 145) rfl)) rfl
theorem mw_690 : Cond.static yL_setUse ∈ GW := gw_mem (inT4 _ (List.mem_of_getElem? (i := 146) rfl)) rfl
theorem mw_691 : Cond.code yX8_setUse cX8_setUse 5 (some Jvm.ClassFile.FieldType.int) ∈ GW := gw_mem (inT6 _ (List.mem_of_getElem? (i := 61) rfl)) rfl
theorem mw_692 : Cond.methodLink RL 134 yX8_setUse ∈ GW := gw_mem (inT6 _ (List.mem_of_getElem? (i := 58) rfl)) rfl
theorem mw_693 : Cond.instanceMethod yX8_setUse ∈ GW := gw_mem (inT6 _ (List.mem_of_getElem? (i := 59) rfl)) rfl
theorem mw_694 : Cond.selects RX8 yX8_setUse yX8_setUse ∈ GW := gw_mem (inT6 _ (List.mem_of_getElem? (i := 60) rfl)) rfl
theorem mw_695 : Cond.code yX7_instructions cX7_instructions 1 (some Jvm.ClassFile.FieldType.int) ∈ GW := gw_mem (inT2 _ (List.mem_of_getElem? (i := 93) rfl)) rfl
theorem mw_696 : Cond.methodLink RL 135 yX7_instructions ∈ GW := gw_mem (inT2 _ (List.mem_of_getElem? (i := 90) rfl)) rfl
theorem mw_697 : Cond.instanceMethod yX7_instructions ∈ GW := gw_mem (inT2 _ (List.mem_of_getElem? (i := 91) rfl)) rfl
theorem mw_698 : Cond.selects RX7 yX7_instructions yX7_instructions ∈ GW := gw_mem (inT2 _ (List.mem_of_getElem? (i := 92) rfl)) rfl
theorem mw_699 : Cond.code yX8_instructions cX8_instructions 1 (some Jvm.ClassFile.FieldType.int) ∈ GW := gw_mem (inT6 _ (List.mem_of_getElem? (i := 65) rfl)) rfl
theorem mw_700 : Cond.methodLink RL 138 yX8_instructions ∈ GW := gw_mem (inT6 _ (List.mem_of_getElem? (i := 62) rfl)) rfl
theorem mw_701 : Cond.instanceMethod yX8_instructions ∈ GW := gw_mem (inT6 _ (List.mem_of_getElem? (i := 63) rfl)) rfl
theorem mw_702 : Cond.selects RX8 yX8_instructions yX8_instructions ∈ GW := gw_mem (inT6 _ (List.mem_of_getElem? (i := 64) rfl)) rfl
theorem mw_703 : Cond.codeWith yL_kindOf cL_kindOf 4 (some Jvm.ClassFile.FieldType.int) [((0), (9), (12), (21))] ∈ GW := gw_mem (inT4 _ (List.mem_of_getElem? (i := 156) rfl)) rfl
theorem mw_704 : Cond.methodLink RL 139 yL_kindOf ∈ GW := gw_mem (inT4 _ (List.mem_of_getElem? (i := 154) rfl)) rfl
theorem mw_705 : Cond.static yL_kindOf ∈ GW := gw_mem (inT4 _ (List.mem_of_getElem? (i := 155) rfl)) rfl
theorem mw_706 : Cond.code yX8_kindOf cX8_kindOf 2 (some Jvm.ClassFile.FieldType.int) ∈ GW := gw_mem (inT6 _ (List.mem_of_getElem? (i := 69) rfl)) rfl
theorem mw_707 : Cond.methodLink RL 141 yX8_kindOf ∈ GW := gw_mem (inT6 _ (List.mem_of_getElem? (i := 66) rfl)) rfl
theorem mw_708 : Cond.instanceMethod yX8_kindOf ∈ GW := gw_mem (inT6 _ (List.mem_of_getElem? (i := 67) rfl)) rfl
theorem mw_709 : Cond.selects RX8 yX8_kindOf yX8_kindOf ∈ GW := gw_mem (inT6 _ (List.mem_of_getElem? (i := 68) rfl)) rfl
theorem mw_710 : Cond.codeWith yL_targetOf cL_targetOf 4 (some Jvm.ClassFile.FieldType.int) [((0), (9), (12), (21))] ∈ GW := gw_mem (inT4 _ (List.mem_of_getElem? (i := 163) rfl)) rfl
theorem mw_711 : Cond.methodLink RL 142 yL_targetOf ∈ GW := gw_mem (inT4 _ (List.mem_of_getElem? (i := 161) rfl)) rfl
theorem mw_712 : Cond.static yL_targetOf ∈ GW := gw_mem (inT4 _ (List.mem_of_getElem? (i := 162) rfl)) rfl
theorem mw_713 : Cond.code yX8_targetOf cX8_targetOf 2 (some Jvm.ClassFile.FieldType.int) ∈ GW := gw_mem (inT6 _ (List.mem_of_getElem? (i := 73) rfl)) rfl
theorem mw_714 : Cond.methodLink RL 144 yX8_targetOf ∈ GW := gw_mem (inT6 _ (List.mem_of_getElem? (i := 70) rfl)) rfl
theorem mw_715 : Cond.instanceMethod yX8_targetOf ∈ GW := gw_mem (inT6 _ (List.mem_of_getElem? (i := 71) rfl)) rfl
theorem mw_716 : Cond.selects RX8 yX8_targetOf yX8_targetOf ∈ GW := gw_mem (inT6 _ (List.mem_of_getElem? (i := 72) rfl)) rfl
theorem mw_717 : Cond.code yX7_blocks cX7_blocks 1 (some Jvm.ClassFile.FieldType.int) ∈ GW := gw_mem (inT2 _ (List.mem_of_getElem? (i := 97) rfl)) rfl
theorem mw_718 : Cond.methodLink RL 145 yX7_blocks ∈ GW := gw_mem (inT2 _ (List.mem_of_getElem? (i := 94) rfl)) rfl
theorem mw_719 : Cond.instanceMethod yX7_blocks ∈ GW := gw_mem (inT2 _ (List.mem_of_getElem? (i := 95) rfl)) rfl
theorem mw_720 : Cond.selects RX7 yX7_blocks yX7_blocks ∈ GW := gw_mem (inT2 _ (List.mem_of_getElem? (i := 96) rfl)) rfl
theorem mw_721 : Cond.code yX8_blocks cX8_blocks 1 (some Jvm.ClassFile.FieldType.int) ∈ GW := gw_mem (inT6 _ (List.mem_of_getElem? (i := 77) rfl)) rfl
theorem mw_722 : Cond.methodLink RL 148 yX8_blocks ∈ GW := gw_mem (inT6 _ (List.mem_of_getElem? (i := 74) rfl)) rfl
theorem mw_723 : Cond.instanceMethod yX8_blocks ∈ GW := gw_mem (inT6 _ (List.mem_of_getElem? (i := 75) rfl)) rfl
theorem mw_724 : Cond.selects RX8 yX8_blocks yX8_blocks ∈ GW := gw_mem (inT6 _ (List.mem_of_getElem? (i := 76) rfl)) rfl
theorem mw_725 : Cond.codeWith yL_blockOf cL_blockOf 4 (some Jvm.ClassFile.FieldType.int) [((0), (9), (12), (21))] ∈ GW := gw_mem (inT4 _ (List.mem_of_getElem? (i := 170) rfl)) rfl
theorem mw_726 : Cond.methodLink RL 149 yL_blockOf ∈ GW := gw_mem (inT4 _ (List.mem_of_getElem? (i := 168) rfl)) rfl
theorem mw_727 : Cond.static yL_blockOf ∈ GW := gw_mem (inT4 _ (List.mem_of_getElem? (i := 169) rfl)) rfl
theorem mw_728 : Cond.code yX8_blockOf cX8_blockOf 2 (some Jvm.ClassFile.FieldType.int) ∈ GW := gw_mem (inT6 _ (List.mem_of_getElem? (i := 237) rfl)) rfl
theorem mw_729 : Cond.methodLink RL 151 yX8_blockOf ∈ GW := gw_mem (inT6 _ (List.mem_of_getElem? (i := 234) rfl)) rfl
theorem mw_730 : Cond.instanceMethod yX8_blockOf ∈ GW := gw_mem (inT6 _ (List.mem_of_getElem? (i := 235) rfl)) rfl
theorem mw_731 : Cond.selects RX8 yX8_blockOf yX8_blockOf ∈ GW := gw_mem (inT6 _ (List.mem_of_getElem? (i := 236) rfl)) rfl
theorem mw_732 : Cond.codeWith yL_firstOf cL_firstOf 4 (some Jvm.ClassFile.FieldType.int) [((0), (9), (12), (21))] ∈ GW := gw_mem (inT4 _ (List.mem_of_getElem? (i := 177) rfl)) rfl
theorem mw_733 : Cond.methodLink RL 152 yL_firstOf ∈ GW := gw_mem (inT4 _ (List.mem_of_getElem? (i := 175) rfl)) rfl
theorem mw_734 : Cond.static yL_firstOf ∈ GW := gw_mem (inT4 _ (List.mem_of_getElem? (i := 176) rfl)) rfl
theorem mw_735 : Cond.code yX8_firstOf cX8_firstOf 2 (some Jvm.ClassFile.FieldType.int) ∈ GW := gw_mem (inT7 _ (List.mem_of_getElem? (i := 1) rfl)) rfl
theorem mw_736 : Cond.methodLink RL 154 yX8_firstOf ∈ GW := gw_mem (inT6 _ (List.mem_of_getElem? (i := 238) rfl)) rfl
theorem mw_737 : Cond.instanceMethod yX8_firstOf ∈ GW := gw_mem (inT6 _ (List.mem_of_getElem? (i := 239) rfl)) rfl
theorem mw_738 : Cond.selects RX8 yX8_firstOf yX8_firstOf ∈ GW := gw_mem (inT7 _ (List.mem_of_getElem? (i := 0) rfl)) rfl
theorem mw_739 : Cond.codeWith yL_isReached cL_isReached 4 (some Jvm.ClassFile.FieldType.int) [((0), (16), (19), (21))] ∈ GW := gw_mem (inT4 _ (List.mem_of_getElem? (i := 189) rfl)) rfl
theorem mw_740 : Cond.methodLink RL 155 yL_isReached ∈ GW := gw_mem (inT4 _ (List.mem_of_getElem? (i := 187) rfl)) rfl
theorem mw_741 : Cond.static yL_isReached ∈ GW := gw_mem (inT4 _ (List.mem_of_getElem? (i := 188) rfl)) rfl
theorem mw_742 : Cond.code yX8_isReached cX8_isReached 2 (some Jvm.ClassFile.FieldType.boolean) ∈ GW := gw_mem (inT7 _ (List.mem_of_getElem? (i := 9) rfl)) rfl
theorem mw_743 : Cond.methodLink RL 157 yX8_isReached ∈ GW := gw_mem (inT7 _ (List.mem_of_getElem? (i := 6) rfl)) rfl
theorem mw_744 : Cond.instanceMethod yX8_isReached ∈ GW := gw_mem (inT7 _ (List.mem_of_getElem? (i := 7) rfl)) rfl
theorem mw_745 : Cond.selects RX8 yX8_isReached yX8_isReached ∈ GW := gw_mem (inT7 _ (List.mem_of_getElem? (i := 8) rfl)) rfl
theorem mw_746 : Cond.code yX7_edges cX7_edges 1 (some Jvm.ClassFile.FieldType.int) ∈ GW := gw_mem (inT2 _ (List.mem_of_getElem? (i := 160) rfl)) rfl
theorem mw_747 : Cond.methodLink RL 158 yX7_edges ∈ GW := gw_mem (inT2 _ (List.mem_of_getElem? (i := 157) rfl)) rfl
theorem mw_748 : Cond.instanceMethod yX7_edges ∈ GW := gw_mem (inT2 _ (List.mem_of_getElem? (i := 158) rfl)) rfl
theorem mw_749 : Cond.selects RX7 yX7_edges yX7_edges ∈ GW := gw_mem (inT2 _ (List.mem_of_getElem? (i := 159) rfl)) rfl
theorem mw_750 : Cond.code yX8_edges cX8_edges 1 (some Jvm.ClassFile.FieldType.int) ∈ GW := gw_mem (inT7 _ (List.mem_of_getElem? (i := 13) rfl)) rfl
theorem mw_751 : Cond.methodLink RL 161 yX8_edges ∈ GW := gw_mem (inT7 _ (List.mem_of_getElem? (i := 10) rfl)) rfl
theorem mw_752 : Cond.instanceMethod yX8_edges ∈ GW := gw_mem (inT7 _ (List.mem_of_getElem? (i := 11) rfl)) rfl
theorem mw_753 : Cond.selects RX8 yX8_edges yX8_edges ∈ GW := gw_mem (inT7 _ (List.mem_of_getElem? (i := 12) rfl)) rfl
theorem mw_754 : Cond.codeWith yL_edgeFrom cL_edgeFrom 4 (some Jvm.ClassFile.FieldType.int) [((0), (9), (12), (21))] ∈ GW := gw_mem (inT4 _ (List.mem_of_getElem? (i := 196) rfl)) rfl
theorem mw_755 : Cond.methodLink RL 162 yL_edgeFrom ∈ GW := gw_mem (inT4 _ (List.mem_of_getElem? (i := 194) rfl)) rfl
theorem mw_756 : Cond.static yL_edgeFrom ∈ GW := gw_mem (inT4 _ (List.mem_of_getElem? (i := 195) rfl)) rfl
theorem mw_757 : Cond.code yX8_edgeFrom cX8_edgeFrom 2 (some Jvm.ClassFile.FieldType.int) ∈ GW := gw_mem (inT7 _ (List.mem_of_getElem? (i := 17) rfl)) rfl
theorem mw_758 : Cond.methodLink RL 164 yX8_edgeFrom ∈ GW := gw_mem (inT7 _ (List.mem_of_getElem? (i := 14) rfl)) rfl
theorem mw_759 : Cond.instanceMethod yX8_edgeFrom ∈ GW := gw_mem (inT7 _ (List.mem_of_getElem? (i := 15) rfl)) rfl
theorem mw_760 : Cond.selects RX8 yX8_edgeFrom yX8_edgeFrom ∈ GW := gw_mem (inT7 _ (List.mem_of_getElem? (i := 16) rfl)) rfl
theorem mw_761 : Cond.codeWith yL_edgeTo cL_edgeTo 4 (some Jvm.ClassFile.FieldType.int) [((0), (9), (12), (21))] ∈ GW := gw_mem (inT4 _ (List.mem_of_getElem? (i := 208) rfl)) rfl
theorem mw_762 : Cond.methodLink RL 165 yL_edgeTo ∈ GW := gw_mem (inT4 _ (List.mem_of_getElem? (i := 206) rfl)) rfl
theorem mw_763 : Cond.static yL_edgeTo ∈ GW := gw_mem (inT4 _ (List.mem_of_getElem? (i := 207) rfl)) rfl
theorem mw_764 : Cond.code yX8_edgeTo cX8_edgeTo 2 (some Jvm.ClassFile.FieldType.int) ∈ GW := gw_mem (inT7 _ (List.mem_of_getElem? (i := 25) rfl)) rfl
theorem mw_765 : Cond.methodLink RL 167 yX8_edgeTo ∈ GW := gw_mem (inT7 _ (List.mem_of_getElem? (i := 22) rfl)) rfl
theorem mw_766 : Cond.instanceMethod yX8_edgeTo ∈ GW := gw_mem (inT7 _ (List.mem_of_getElem? (i := 23) rfl)) rfl
theorem mw_767 : Cond.selects RX8 yX8_edgeTo yX8_edgeTo ∈ GW := gw_mem (inT7 _ (List.mem_of_getElem? (i := 24) rfl)) rfl
theorem mw_768 : Cond.codeWith yL_dominates cL_dominates 5 (some Jvm.ClassFile.FieldType.int) [((0), (17), (20), (21))] ∈ GW := gw_mem (inT4 _ (List.mem_of_getElem? (i := 215) rfl)) rfl
theorem mw_769 : Cond.methodLink RL 168 yL_dominates ∈ GW := gw_mem (inT4 _ (List.mem_of_getElem? (i := 213) rfl)) rfl
theorem mw_770 : Cond.static yL_dominates ∈ GW := gw_mem (inT4 _ (List.mem_of_getElem? (i := 214) rfl)) rfl
theorem mw_771 : Cond.code yX8_dominates cX8_dominates 3 (some Jvm.ClassFile.FieldType.boolean) ∈ GW := gw_mem (inT7 _ (List.mem_of_getElem? (i := 29) rfl)) rfl
theorem mw_772 : Cond.methodLink RL 170 yX8_dominates ∈ GW := gw_mem (inT7 _ (List.mem_of_getElem? (i := 26) rfl)) rfl
theorem mw_773 : Cond.instanceMethod yX8_dominates ∈ GW := gw_mem (inT7 _ (List.mem_of_getElem? (i := 27) rfl)) rfl
theorem mw_774 : Cond.selects RX8 yX8_dominates yX8_dominates ∈ GW := gw_mem (inT7 _ (List.mem_of_getElem? (i := 28) rfl)) rfl
theorem mw_775 : Cond.codeWith yL_parentOf cL_parentOf 4 (some Jvm.ClassFile.FieldType.int) [((0), (9), (12), (21))] ∈ GW := gw_mem (inT4 _ (List.mem_of_getElem? (i := 223) rfl)) rfl
theorem mw_776 : Cond.methodLink RL 171 yL_parentOf ∈ GW := gw_mem (inT4 _ (List.mem_of_getElem? (i := 221) rfl)) rfl
theorem mw_777 : Cond.static yL_parentOf ∈ GW := gw_mem (inT4 _ (List.mem_of_getElem? (i := 222) rfl)) rfl
theorem mw_778 : Cond.code yX8_parentOf cX8_parentOf 2 (some Jvm.ClassFile.FieldType.int) ∈ GW := gw_mem (inT7 _ (List.mem_of_getElem? (i := 33) rfl)) rfl
theorem mw_779 : Cond.methodLink RL 173 yX8_parentOf ∈ GW := gw_mem (inT7 _ (List.mem_of_getElem? (i := 30) rfl)) rfl
theorem mw_780 : Cond.instanceMethod yX8_parentOf ∈ GW := gw_mem (inT7 _ (List.mem_of_getElem? (i := 31) rfl)) rfl
theorem mw_781 : Cond.selects RX8 yX8_parentOf yX8_parentOf ∈ GW := gw_mem (inT7 _ (List.mem_of_getElem? (i := 32) rfl)) rfl
theorem mw_782 : Cond.codeWith yL_comesBehind cL_comesBehind 5 (some Jvm.ClassFile.FieldType.int) [((0), (17), (20), (21))] ∈ GW := gw_mem (inT4 _ (List.mem_of_getElem? (i := 230) rfl)) rfl
theorem mw_783 : Cond.methodLink RL 174 yL_comesBehind ∈ GW := gw_mem (inT4 _ (List.mem_of_getElem? (i := 228) rfl)) rfl
theorem mw_784 : Cond.static yL_comesBehind ∈ GW := gw_mem (inT4 _ (List.mem_of_getElem? (i := 229) rfl)) rfl
theorem mw_785 : Cond.code yX8_comesBehind cX8_comesBehind 3 (some Jvm.ClassFile.FieldType.boolean) ∈ GW := gw_mem (inT7 _ (List.mem_of_getElem? (i := 41) rfl)) rfl
theorem mw_786 : Cond.methodLink RL 176 yX8_comesBehind ∈ GW := gw_mem (inT7 _ (List.mem_of_getElem? (i := 38) rfl)) rfl
theorem mw_787 : Cond.instanceMethod yX8_comesBehind ∈ GW := gw_mem (inT7 _ (List.mem_of_getElem? (i := 39) rfl)) rfl
theorem mw_788 : Cond.selects RX8 yX8_comesBehind yX8_comesBehind ∈ GW := gw_mem (inT7 _ (List.mem_of_getElem? (i := 40) rfl)) rfl
theorem mw_789 : Cond.codeWith yL_isBack cL_isBack 4 (some Jvm.ClassFile.FieldType.int) [((0), (16), (19), (21))] ∈ GW := gw_mem (inT5 _ (List.mem_of_getElem? (i := 1) rfl)) rfl
theorem mw_790 : Cond.methodLink RL 177 yL_isBack ∈ GW := gw_mem (inT4 _ (List.mem_of_getElem? (i := 239) rfl)) rfl
theorem mw_791 : Cond.static yL_isBack ∈ GW := gw_mem (inT5 _ (List.mem_of_getElem? (i := 0) rfl)) rfl
theorem mw_792 : Cond.code yX8_isBack cX8_isBack 2 (some Jvm.ClassFile.FieldType.boolean) ∈ GW := gw_mem (inT7 _ (List.mem_of_getElem? (i := 49) rfl)) rfl
theorem mw_793 : Cond.methodLink RL 179 yX8_isBack ∈ GW := gw_mem (inT7 _ (List.mem_of_getElem? (i := 46) rfl)) rfl
theorem mw_794 : Cond.instanceMethod yX8_isBack ∈ GW := gw_mem (inT7 _ (List.mem_of_getElem? (i := 47) rfl)) rfl
theorem mw_795 : Cond.selects RX8 yX8_isBack yX8_isBack ∈ GW := gw_mem (inT7 _ (List.mem_of_getElem? (i := 48) rfl)) rfl
theorem mw_796 : Cond.code yX7_loops cX7_loops 1 (some Jvm.ClassFile.FieldType.int) ∈ GW := gw_mem (inT2 _ (List.mem_of_getElem? (i := 164) rfl)) rfl
theorem mw_797 : Cond.methodLink RL 180 yX7_loops ∈ GW := gw_mem (inT2 _ (List.mem_of_getElem? (i := 161) rfl)) rfl
theorem mw_798 : Cond.instanceMethod yX7_loops ∈ GW := gw_mem (inT2 _ (List.mem_of_getElem? (i := 162) rfl)) rfl
theorem mw_799 : Cond.selects RX7 yX7_loops yX7_loops ∈ GW := gw_mem (inT2 _ (List.mem_of_getElem? (i := 163) rfl)) rfl
theorem mw_800 : Cond.code yX8_loops cX8_loops 1 (some Jvm.ClassFile.FieldType.int) ∈ GW := gw_mem (inT7 _ (List.mem_of_getElem? (i := 53) rfl)) rfl
theorem mw_801 : Cond.methodLink RL 183 yX8_loops ∈ GW := gw_mem (inT7 _ (List.mem_of_getElem? (i := 50) rfl)) rfl
theorem mw_802 : Cond.instanceMethod yX8_loops ∈ GW := gw_mem (inT7 _ (List.mem_of_getElem? (i := 51) rfl)) rfl
theorem mw_803 : Cond.selects RX8 yX8_loops yX8_loops ∈ GW := gw_mem (inT7 _ (List.mem_of_getElem? (i := 52) rfl)) rfl
theorem mw_804 : Cond.codeWith yL_loopSize cL_loopSize 4 (some Jvm.ClassFile.FieldType.int) [((0), (9), (12), (21))] ∈ GW := gw_mem (inT5 _ (List.mem_of_getElem? (i := 8) rfl)) rfl
theorem mw_805 : Cond.methodLink RL 184 yL_loopSize ∈ GW := gw_mem (inT5 _ (List.mem_of_getElem? (i := 6) rfl)) rfl
theorem mw_806 : Cond.static yL_loopSize ∈ GW := gw_mem (inT5 _ (List.mem_of_getElem? (i := 7) rfl)) rfl
theorem mw_807 : Cond.code yX8_loopSize cX8_loopSize 2 (some Jvm.ClassFile.FieldType.int) ∈ GW := gw_mem (inT7 _ (List.mem_of_getElem? (i := 61) rfl)) rfl
theorem mw_808 : Cond.methodLink RL 186 yX8_loopSize ∈ GW := gw_mem (inT7 _ (List.mem_of_getElem? (i := 58) rfl)) rfl
theorem mw_809 : Cond.instanceMethod yX8_loopSize ∈ GW := gw_mem (inT7 _ (List.mem_of_getElem? (i := 59) rfl)) rfl
theorem mw_810 : Cond.selects RX8 yX8_loopSize yX8_loopSize ∈ GW := gw_mem (inT7 _ (List.mem_of_getElem? (i := 60) rfl)) rfl
theorem mw_811 : Cond.codeWith yL_depthOf cL_depthOf 4 (some Jvm.ClassFile.FieldType.int) [((0), (9), (12), (21))] ∈ GW := gw_mem (inT5 _ (List.mem_of_getElem? (i := 15) rfl)) rfl
theorem mw_812 : Cond.methodLink RL 187 yL_depthOf ∈ GW := gw_mem (inT5 _ (List.mem_of_getElem? (i := 13) rfl)) rfl
theorem mw_813 : Cond.static yL_depthOf ∈ GW := gw_mem (inT5 _ (List.mem_of_getElem? (i := 14) rfl)) rfl
theorem mw_814 : Cond.code yX8_depthOf cX8_depthOf 2 (some Jvm.ClassFile.FieldType.int) ∈ GW := gw_mem (inT7 _ (List.mem_of_getElem? (i := 65) rfl)) rfl
theorem mw_815 : Cond.methodLink RL 189 yX8_depthOf ∈ GW := gw_mem (inT7 _ (List.mem_of_getElem? (i := 62) rfl)) rfl
theorem mw_816 : Cond.instanceMethod yX8_depthOf ∈ GW := gw_mem (inT7 _ (List.mem_of_getElem? (i := 63) rfl)) rfl
theorem mw_817 : Cond.selects RX8 yX8_depthOf yX8_depthOf ∈ GW := gw_mem (inT7 _ (List.mem_of_getElem? (i := 64) rfl)) rfl
theorem mw_818 : Cond.code yX7_isTame cX7_isTame 1 (some Jvm.ClassFile.FieldType.boolean) ∈ GW := gw_mem (inT2 _ (List.mem_of_getElem? (i := 198) rfl)) rfl
theorem mw_819 : Cond.methodLink RL 190 yX7_isTame ∈ GW := gw_mem (inT2 _ (List.mem_of_getElem? (i := 195) rfl)) rfl
theorem mw_820 : Cond.instanceMethod yX7_isTame ∈ GW := gw_mem (inT2 _ (List.mem_of_getElem? (i := 196) rfl)) rfl
theorem mw_821 : Cond.selects RX7 yX7_isTame yX7_isTame ∈ GW := gw_mem (inT2 _ (List.mem_of_getElem? (i := 197) rfl)) rfl
theorem mw_822 : Cond.code yX8_isTame cX8_isTame 1 (some Jvm.ClassFile.FieldType.boolean) ∈ GW := gw_mem (inT7 _ (List.mem_of_getElem? (i := 73) rfl)) rfl
theorem mw_823 : Cond.methodLink RL 194 yX8_isTame ∈ GW := gw_mem (inT7 _ (List.mem_of_getElem? (i := 70) rfl)) rfl
theorem mw_824 : Cond.instanceMethod yX8_isTame ∈ GW := gw_mem (inT7 _ (List.mem_of_getElem? (i := 71) rfl)) rfl
theorem mw_825 : Cond.selects RX8 yX8_isTame yX8_isTame ∈ GW := gw_mem (inT7 _ (List.mem_of_getElem? (i := 72) rfl)) rfl
theorem mw_826 : Cond.codeWith yL_liveIn cL_liveIn 4 (some Jvm.ClassFile.FieldType.int) [((0), (9), (12), (21))] ∈ GW := gw_mem (inT5 _ (List.mem_of_getElem? (i := 22) rfl)) rfl
theorem mw_827 : Cond.methodLink RL 195 yL_liveIn ∈ GW := gw_mem (inT5 _ (List.mem_of_getElem? (i := 20) rfl)) rfl
theorem mw_828 : Cond.static yL_liveIn ∈ GW := gw_mem (inT5 _ (List.mem_of_getElem? (i := 21) rfl)) rfl
theorem mw_829 : Cond.code yX8_liveIn cX8_liveIn 2 (some Jvm.ClassFile.FieldType.int) ∈ GW := gw_mem (inT7 _ (List.mem_of_getElem? (i := 81) rfl)) rfl
theorem mw_830 : Cond.methodLink RL 197 yX8_liveIn ∈ GW := gw_mem (inT7 _ (List.mem_of_getElem? (i := 78) rfl)) rfl
theorem mw_831 : Cond.instanceMethod yX8_liveIn ∈ GW := gw_mem (inT7 _ (List.mem_of_getElem? (i := 79) rfl)) rfl
theorem mw_832 : Cond.selects RX8 yX8_liveIn yX8_liveIn ∈ GW := gw_mem (inT7 _ (List.mem_of_getElem? (i := 80) rfl)) rfl
theorem mw_833 : Cond.code yX7_vain cX7_vain 1 (some Jvm.ClassFile.FieldType.int) ∈ GW := gw_mem (inT2 _ (List.mem_of_getElem? (i := 202) rfl)) rfl
theorem mw_834 : Cond.methodLink RL 198 yX7_vain ∈ GW := gw_mem (inT2 _ (List.mem_of_getElem? (i := 199) rfl)) rfl
theorem mw_835 : Cond.instanceMethod yX7_vain ∈ GW := gw_mem (inT2 _ (List.mem_of_getElem? (i := 200) rfl)) rfl
theorem mw_836 : Cond.selects RX7 yX7_vain yX7_vain ∈ GW := gw_mem (inT2 _ (List.mem_of_getElem? (i := 201) rfl)) rfl
theorem mw_837 : Cond.code yX8_vain cX8_vain 1 (some Jvm.ClassFile.FieldType.int) ∈ GW := gw_mem (inT7 _ (List.mem_of_getElem? (i := 89) rfl)) rfl
theorem mw_838 : Cond.methodLink RL 201 yX8_vain ∈ GW := gw_mem (inT7 _ (List.mem_of_getElem? (i := 86) rfl)) rfl
theorem mw_839 : Cond.instanceMethod yX8_vain ∈ GW := gw_mem (inT7 _ (List.mem_of_getElem? (i := 87) rfl)) rfl
theorem mw_840 : Cond.selects RX8 yX8_vain yX8_vain ∈ GW := gw_mem (inT7 _ (List.mem_of_getElem? (i := 88) rfl)) rfl
theorem mw_841 : Cond.code yX7_windings cX7_windings 1 (some Jvm.ClassFile.FieldType.int) ∈ GW := gw_mem (inT2 _ (List.mem_of_getElem? (i := 233) rfl)) rfl
theorem mw_842 : Cond.methodLink RL 202 yX7_windings ∈ GW := gw_mem (inT2 _ (List.mem_of_getElem? (i := 230) rfl)) rfl
theorem mw_843 : Cond.instanceMethod yX7_windings ∈ GW := gw_mem (inT2 _ (List.mem_of_getElem? (i := 231) rfl)) rfl
theorem mw_844 : Cond.selects RX7 yX7_windings yX7_windings ∈ GW := gw_mem (inT2 _ (List.mem_of_getElem? (i := 232) rfl)) rfl
theorem mw_845 : Cond.code yX8_windings cX8_windings 1 (some Jvm.ClassFile.FieldType.int) ∈ GW := gw_mem (inT7 _ (List.mem_of_getElem? (i := 97) rfl)) rfl
theorem mw_846 : Cond.methodLink RL 205 yX8_windings ∈ GW := gw_mem (inT7 _ (List.mem_of_getElem? (i := 94) rfl)) rfl
theorem mw_847 : Cond.instanceMethod yX8_windings ∈ GW := gw_mem (inT7 _ (List.mem_of_getElem? (i := 95) rfl)) rfl
theorem mw_848 : Cond.selects RX8 yX8_windings yX8_windings ∈ GW := gw_mem (inT7 _ (List.mem_of_getElem? (i := 96) rfl)) rfl
theorem mw_849 : Cond.code yX7_steps cX7_steps 1 (some Jvm.ClassFile.FieldType.int) ∈ GW := gw_mem (inT3 _ (List.mem_of_getElem? (i := 2) rfl)) rfl
theorem mw_850 : Cond.methodLink RL 206 yX7_steps ∈ GW := gw_mem (inT2 _ (List.mem_of_getElem? (i := 239) rfl)) rfl
theorem mw_851 : Cond.instanceMethod yX7_steps ∈ GW := gw_mem (inT3 _ (List.mem_of_getElem? (i := 0) rfl)) rfl
theorem mw_852 : Cond.selects RX7 yX7_steps yX7_steps ∈ GW := gw_mem (inT3 _ (List.mem_of_getElem? (i := 1) rfl)) rfl
theorem mw_853 : Cond.code yX8_steps cX8_steps 1 (some Jvm.ClassFile.FieldType.int) ∈ GW := gw_mem (inT7 _ (List.mem_of_getElem? (i := 105) rfl)) rfl
theorem mw_854 : Cond.methodLink RL 209 yX8_steps ∈ GW := gw_mem (inT7 _ (List.mem_of_getElem? (i := 102) rfl)) rfl
theorem mw_855 : Cond.instanceMethod yX8_steps ∈ GW := gw_mem (inT7 _ (List.mem_of_getElem? (i := 103) rfl)) rfl
theorem mw_856 : Cond.selects RX8 yX8_steps yX8_steps ∈ GW := gw_mem (inT7 _ (List.mem_of_getElem? (i := 104) rfl)) rfl
theorem mw_857 : Cond.codeWith yL_ruleOf cL_ruleOf 4 (some Jvm.ClassFile.FieldType.int) [((0), (9), (12), (21))] ∈ GW := gw_mem (inT5 _ (List.mem_of_getElem? (i := 29) rfl)) rfl
theorem mw_858 : Cond.methodLink RL 210 yL_ruleOf ∈ GW := gw_mem (inT5 _ (List.mem_of_getElem? (i := 27) rfl)) rfl
theorem mw_859 : Cond.static yL_ruleOf ∈ GW := gw_mem (inT5 _ (List.mem_of_getElem? (i := 28) rfl)) rfl
theorem mw_860 : Cond.code yX8_ruleOf cX8_ruleOf 2 (some Jvm.ClassFile.FieldType.int) ∈ GW := gw_mem (inT7 _ (List.mem_of_getElem? (i := 109) rfl)) rfl
theorem mw_861 : Cond.methodLink RL 212 yX8_ruleOf ∈ GW := gw_mem (inT7 _ (List.mem_of_getElem? (i := 106) rfl)) rfl
theorem mw_862 : Cond.instanceMethod yX8_ruleOf ∈ GW := gw_mem (inT7 _ (List.mem_of_getElem? (i := 107) rfl)) rfl
theorem mw_863 : Cond.selects RX8 yX8_ruleOf yX8_ruleOf ∈ GW := gw_mem (inT7 _ (List.mem_of_getElem? (i := 108) rfl)) rfl
theorem mw_864 : Cond.codeWith yL_nodeOf cL_nodeOf 4 (some Jvm.ClassFile.FieldType.int) [((0), (9), (12), (21))] ∈ GW := gw_mem (inT5 _ (List.mem_of_getElem? (i := 41) rfl)) rfl
theorem mw_865 : Cond.methodLink RL 213 yL_nodeOf ∈ GW := gw_mem (inT5 _ (List.mem_of_getElem? (i := 39) rfl)) rfl
theorem mw_866 : Cond.static yL_nodeOf ∈ GW := gw_mem (inT5 _ (List.mem_of_getElem? (i := 40) rfl)) rfl
theorem mw_867 : Cond.code yX8_nodeOf cX8_nodeOf 2 (some Jvm.ClassFile.FieldType.int) ∈ GW := gw_mem (inT7 _ (List.mem_of_getElem? (i := 113) rfl)) rfl
theorem mw_868 : Cond.methodLink RL 215 yX8_nodeOf ∈ GW := gw_mem (inT7 _ (List.mem_of_getElem? (i := 110) rfl)) rfl
theorem mw_869 : Cond.instanceMethod yX8_nodeOf ∈ GW := gw_mem (inT7 _ (List.mem_of_getElem? (i := 111) rfl)) rfl
theorem mw_870 : Cond.selects RX8 yX8_nodeOf yX8_nodeOf ∈ GW := gw_mem (inT7 _ (List.mem_of_getElem? (i := 112) rfl)) rfl
theorem mw_871 : Cond.code yX7_left cX7_left 1 (some Jvm.ClassFile.FieldType.int) ∈ GW := gw_mem (inT3 _ (List.mem_of_getElem? (i := 51) rfl)) rfl
theorem mw_872 : Cond.methodLink RL 216 yX7_left ∈ GW := gw_mem (inT3 _ (List.mem_of_getElem? (i := 48) rfl)) rfl
theorem mw_873 : Cond.instanceMethod yX7_left ∈ GW := gw_mem (inT3 _ (List.mem_of_getElem? (i := 49) rfl)) rfl
theorem mw_874 : Cond.selects RX7 yX7_left yX7_left ∈ GW := gw_mem (inT3 _ (List.mem_of_getElem? (i := 50) rfl)) rfl
theorem mw_875 : Cond.code yX8_left cX8_left 1 (some Jvm.ClassFile.FieldType.int) ∈ GW := gw_mem (inT7 _ (List.mem_of_getElem? (i := 117) rfl)) rfl
theorem mw_876 : Cond.methodLink RL 219 yX8_left ∈ GW := gw_mem (inT7 _ (List.mem_of_getElem? (i := 114) rfl)) rfl
theorem mw_877 : Cond.instanceMethod yX8_left ∈ GW := gw_mem (inT7 _ (List.mem_of_getElem? (i := 115) rfl)) rfl
theorem mw_878 : Cond.selects RX8 yX8_left yX8_left ∈ GW := gw_mem (inT7 _ (List.mem_of_getElem? (i := 116) rfl)) rfl
theorem mw_879 : Cond.code yX7_isNeat cX7_isNeat 1 (some Jvm.ClassFile.FieldType.boolean) ∈ GW := gw_mem (inT3 _ (List.mem_of_getElem? (i := 55) rfl)) rfl
theorem mw_880 : Cond.methodLink RL 220 yX7_isNeat ∈ GW := gw_mem (inT3 _ (List.mem_of_getElem? (i := 52) rfl)) rfl
theorem mw_881 : Cond.instanceMethod yX7_isNeat ∈ GW := gw_mem (inT3 _ (List.mem_of_getElem? (i := 53) rfl)) rfl
theorem mw_882 : Cond.selects RX7 yX7_isNeat yX7_isNeat ∈ GW := gw_mem (inT3 _ (List.mem_of_getElem? (i := 54) rfl)) rfl
theorem mw_883 : Cond.code yX8_isNeat cX8_isNeat 1 (some Jvm.ClassFile.FieldType.boolean) ∈ GW := gw_mem (inT7 _ (List.mem_of_getElem? (i := 121) rfl)) rfl
theorem mw_884 : Cond.methodLink RL 223 yX8_isNeat ∈ GW := gw_mem (inT7 _ (List.mem_of_getElem? (i := 118) rfl)) rfl
theorem mw_885 : Cond.instanceMethod yX8_isNeat ∈ GW := gw_mem (inT7 _ (List.mem_of_getElem? (i := 119) rfl)) rfl
theorem mw_886 : Cond.selects RX8 yX8_isNeat yX8_isNeat ∈ GW := gw_mem (inT7 _ (List.mem_of_getElem? (i := 120) rfl)) rfl
theorem mw_887 : Cond.codeWith yL_endsIn cL_endsIn 4 (some Jvm.ClassFile.FieldType.int) [((0), (9), (12), (21))] ∈ GW := gw_mem (inT5 _ (List.mem_of_getElem? (i := 48) rfl)) rfl
theorem mw_888 : Cond.methodLink RL 224 yL_endsIn ∈ GW := gw_mem (inT5 _ (List.mem_of_getElem? (i := 46) rfl)) rfl
theorem mw_889 : Cond.static yL_endsIn ∈ GW := gw_mem (inT5 _ (List.mem_of_getElem? (i := 47) rfl)) rfl
theorem mw_890 : Cond.code yX8_endsIn cX8_endsIn 2 (some Jvm.ClassFile.FieldType.int) ∈ GW := gw_mem (inT7 _ (List.mem_of_getElem? (i := 125) rfl)) rfl
theorem mw_891 : Cond.methodLink RL 226 yX8_endsIn ∈ GW := gw_mem (inT7 _ (List.mem_of_getElem? (i := 122) rfl)) rfl
theorem mw_892 : Cond.instanceMethod yX8_endsIn ∈ GW := gw_mem (inT7 _ (List.mem_of_getElem? (i := 123) rfl)) rfl
theorem mw_893 : Cond.selects RX8 yX8_endsIn yX8_endsIn ∈ GW := gw_mem (inT7 _ (List.mem_of_getElem? (i := 124) rfl)) rfl
theorem mw_894 : Cond.code yX7_layers cX7_layers 1 (some Jvm.ClassFile.FieldType.int) ∈ GW := gw_mem (inT3 _ (List.mem_of_getElem? (i := 59) rfl)) rfl
theorem mw_895 : Cond.methodLink RL 227 yX7_layers ∈ GW := gw_mem (inT3 _ (List.mem_of_getElem? (i := 56) rfl)) rfl
theorem mw_896 : Cond.instanceMethod yX7_layers ∈ GW := gw_mem (inT3 _ (List.mem_of_getElem? (i := 57) rfl)) rfl
theorem mw_897 : Cond.selects RX7 yX7_layers yX7_layers ∈ GW := gw_mem (inT3 _ (List.mem_of_getElem? (i := 58) rfl)) rfl
theorem mw_898 : Cond.code yX8_layers cX8_layers 1 (some Jvm.ClassFile.FieldType.int) ∈ GW := gw_mem (inT7 _ (List.mem_of_getElem? (i := 129) rfl)) rfl
theorem mw_899 : Cond.methodLink RL 230 yX8_layers ∈ GW := gw_mem (inT7 _ (List.mem_of_getElem? (i := 126) rfl)) rfl
theorem mw_900 : Cond.instanceMethod yX8_layers ∈ GW := gw_mem (inT7 _ (List.mem_of_getElem? (i := 127) rfl)) rfl
theorem mw_901 : Cond.selects RX8 yX8_layers yX8_layers ∈ GW := gw_mem (inT7 _ (List.mem_of_getElem? (i := 128) rfl)) rfl
theorem mw_902 : Cond.codeWith yL_layerOf cL_layerOf 4 (some Jvm.ClassFile.FieldType.int) [((0), (9), (12), (21))] ∈ GW := gw_mem (inT5 _ (List.mem_of_getElem? (i := 55) rfl)) rfl
theorem mw_903 : Cond.methodLink RL 231 yL_layerOf ∈ GW := gw_mem (inT5 _ (List.mem_of_getElem? (i := 53) rfl)) rfl
theorem mw_904 : Cond.static yL_layerOf ∈ GW := gw_mem (inT5 _ (List.mem_of_getElem? (i := 54) rfl)) rfl
theorem mw_905 : Cond.code yX8_layerOf cX8_layerOf 2 (some Jvm.ClassFile.FieldType.int) ∈ GW := gw_mem (inT7 _ (List.mem_of_getElem? (i := 133) rfl)) rfl
theorem mw_906 : Cond.methodLink RL 233 yX8_layerOf ∈ GW := gw_mem (inT7 _ (List.mem_of_getElem? (i := 130) rfl)) rfl
theorem mw_907 : Cond.instanceMethod yX8_layerOf ∈ GW := gw_mem (inT7 _ (List.mem_of_getElem? (i := 131) rfl)) rfl
theorem mw_908 : Cond.selects RX8 yX8_layerOf yX8_layerOf ∈ GW := gw_mem (inT7 _ (List.mem_of_getElem? (i := 132) rfl)) rfl
theorem mw_909 : Cond.codeWith yL_isTurned cL_isTurned 4 (some Jvm.ClassFile.FieldType.int) [((0), (16), (19), (21))] ∈ GW := gw_mem (inT5 _ (List.mem_of_getElem? (i := 62) rfl)) rfl
theorem mw_910 : Cond.methodLink RL 234 yL_isTurned ∈ GW := gw_mem (inT5 _ (List.mem_of_getElem? (i := 60) rfl)) rfl
theorem mw_911 : Cond.static yL_isTurned ∈ GW := gw_mem (inT5 _ (List.mem_of_getElem? (i := 61) rfl)) rfl
theorem mw_912 : Cond.code yX8_isTurned cX8_isTurned 2 (some Jvm.ClassFile.FieldType.boolean) ∈ GW := gw_mem (inT7 _ (List.mem_of_getElem? (i := 141) rfl)) rfl
theorem mw_913 : Cond.methodLink RL 236 yX8_isTurned ∈ GW := gw_mem (inT7 _ (List.mem_of_getElem? (i := 138) rfl)) rfl
theorem mw_914 : Cond.instanceMethod yX8_isTurned ∈ GW := gw_mem (inT7 _ (List.mem_of_getElem? (i := 139) rfl)) rfl
theorem mw_915 : Cond.selects RX8 yX8_isTurned yX8_isTurned ∈ GW := gw_mem (inT7 _ (List.mem_of_getElem? (i := 140) rfl)) rfl
theorem mw_916 : Cond.codeWith yL_points cL_points 4 (some Jvm.ClassFile.FieldType.int) [((0), (9), (12), (21))] ∈ GW := gw_mem (inT5 _ (List.mem_of_getElem? (i := 69) rfl)) rfl
theorem mw_917 : Cond.methodLink RL 237 yL_points ∈ GW := gw_mem (inT5 _ (List.mem_of_getElem? (i := 67) rfl)) rfl
theorem mw_918 : Cond.static yL_points ∈ GW := gw_mem (inT5 _ (List.mem_of_getElem? (i := 68) rfl)) rfl
theorem mw_919 : Cond.code yX8_points cX8_points 2 (some Jvm.ClassFile.FieldType.int) ∈ GW := gw_mem (inT7 _ (List.mem_of_getElem? (i := 145) rfl)) rfl
theorem mw_920 : Cond.methodLink RL 239 yX8_points ∈ GW := gw_mem (inT7 _ (List.mem_of_getElem? (i := 142) rfl)) rfl
theorem mw_921 : Cond.instanceMethod yX8_points ∈ GW := gw_mem (inT7 _ (List.mem_of_getElem? (i := 143) rfl)) rfl
theorem mw_922 : Cond.selects RX8 yX8_points yX8_points ∈ GW := gw_mem (inT7 _ (List.mem_of_getElem? (i := 144) rfl)) rfl
theorem mw_923 : Cond.codeWith yL_pointAt cL_pointAt 5 (some Jvm.ClassFile.FieldType.int) [((0), (10), (13), (21))] ∈ GW := gw_mem (inT5 _ (List.mem_of_getElem? (i := 81) rfl)) rfl
theorem mw_924 : Cond.methodLink RL 240 yL_pointAt ∈ GW := gw_mem (inT5 _ (List.mem_of_getElem? (i := 79) rfl)) rfl
theorem mw_925 : Cond.static yL_pointAt ∈ GW := gw_mem (inT5 _ (List.mem_of_getElem? (i := 80) rfl)) rfl
theorem mw_926 : Cond.code yX8_pointAt cX8_pointAt 3 (some Jvm.ClassFile.FieldType.int) ∈ GW := gw_mem (inT7 _ (List.mem_of_getElem? (i := 153) rfl)) rfl
theorem mw_927 : Cond.methodLink RL 242 yX8_pointAt ∈ GW := gw_mem (inT7 _ (List.mem_of_getElem? (i := 150) rfl)) rfl
theorem mw_928 : Cond.instanceMethod yX8_pointAt ∈ GW := gw_mem (inT7 _ (List.mem_of_getElem? (i := 151) rfl)) rfl
theorem mw_929 : Cond.selects RX8 yX8_pointAt yX8_pointAt ∈ GW := gw_mem (inT7 _ (List.mem_of_getElem? (i := 152) rfl)) rfl
theorem mw_930 : Cond.codeWith yL_placeOf cL_placeOf 4 (some Jvm.ClassFile.FieldType.int) [((0), (9), (12), (21))] ∈ GW := gw_mem (inT5 _ (List.mem_of_getElem? (i := 88) rfl)) rfl
theorem mw_931 : Cond.methodLink RL 243 yL_placeOf ∈ GW := gw_mem (inT5 _ (List.mem_of_getElem? (i := 86) rfl)) rfl
theorem mw_932 : Cond.static yL_placeOf ∈ GW := gw_mem (inT5 _ (List.mem_of_getElem? (i := 87) rfl)) rfl
theorem mw_933 : Cond.code yX8_placeOf cX8_placeOf 2 (some Jvm.ClassFile.FieldType.int) ∈ GW := gw_mem (inT7 _ (List.mem_of_getElem? (i := 157) rfl)) rfl
theorem mw_934 : Cond.methodLink RL 245 yX8_placeOf ∈ GW := gw_mem (inT7 _ (List.mem_of_getElem? (i := 154) rfl)) rfl
theorem mw_935 : Cond.instanceMethod yX8_placeOf ∈ GW := gw_mem (inT7 _ (List.mem_of_getElem? (i := 155) rfl)) rfl
theorem mw_936 : Cond.selects RX8 yX8_placeOf yX8_placeOf ∈ GW := gw_mem (inT7 _ (List.mem_of_getElem? (i := 156) rfl)) rfl
theorem mw_937 : Cond.codeWith yL_bends cL_bends 4 (some Jvm.ClassFile.FieldType.int) [((0), (9), (12), (21))] ∈ GW := gw_mem (inT5 _ (List.mem_of_getElem? (i := 95) rfl)) rfl
theorem mw_938 : Cond.methodLink RL 246 yL_bends ∈ GW := gw_mem (inT5 _ (List.mem_of_getElem? (i := 93) rfl)) rfl
theorem mw_939 : Cond.static yL_bends ∈ GW := gw_mem (inT5 _ (List.mem_of_getElem? (i := 94) rfl)) rfl
theorem mw_940 : Cond.code yX8_bends cX8_bends 2 (some Jvm.ClassFile.FieldType.int) ∈ GW := gw_mem (inT7 _ (List.mem_of_getElem? (i := 168) rfl)) rfl
theorem mw_941 : Cond.methodLink RL 248 yX8_bends ∈ GW := gw_mem (inT7 _ (List.mem_of_getElem? (i := 165) rfl)) rfl
theorem mw_942 : Cond.instanceMethod yX8_bends ∈ GW := gw_mem (inT7 _ (List.mem_of_getElem? (i := 166) rfl)) rfl
theorem mw_943 : Cond.selects RX8 yX8_bends yX8_bends ∈ GW := gw_mem (inT7 _ (List.mem_of_getElem? (i := 167) rfl)) rfl
theorem mw_944 : Cond.codeWith yL_bendAt cL_bendAt 5 (some Jvm.ClassFile.FieldType.int) [((0), (10), (13), (21))] ∈ GW := gw_mem (inT5 _ (List.mem_of_getElem? (i := 102) rfl)) rfl
theorem mw_945 : Cond.methodLink RL 249 yL_bendAt ∈ GW := gw_mem (inT5 _ (List.mem_of_getElem? (i := 100) rfl)) rfl
theorem mw_946 : Cond.static yL_bendAt ∈ GW := gw_mem (inT5 _ (List.mem_of_getElem? (i := 101) rfl)) rfl
theorem mw_947 : Cond.code yX8_bendAt cX8_bendAt 3 (some Jvm.ClassFile.FieldType.int) ∈ GW := gw_mem (inT7 _ (List.mem_of_getElem? (i := 176) rfl)) rfl
theorem mw_948 : Cond.methodLink RL 251 yX8_bendAt ∈ GW := gw_mem (inT7 _ (List.mem_of_getElem? (i := 173) rfl)) rfl
theorem mw_949 : Cond.instanceMethod yX8_bendAt ∈ GW := gw_mem (inT7 _ (List.mem_of_getElem? (i := 174) rfl)) rfl
theorem mw_950 : Cond.selects RX8 yX8_bendAt yX8_bendAt ∈ GW := gw_mem (inT7 _ (List.mem_of_getElem? (i := 175) rfl)) rfl
theorem mw_951 : Cond.code yX7_crossings cX7_crossings 1 (some Jvm.ClassFile.FieldType.int) ∈ GW := gw_mem (inT3 _ (List.mem_of_getElem? (i := 134) rfl)) rfl
theorem mw_952 : Cond.methodLink RL 252 yX7_crossings ∈ GW := gw_mem (inT3 _ (List.mem_of_getElem? (i := 131) rfl)) rfl
theorem mw_953 : Cond.instanceMethod yX7_crossings ∈ GW := gw_mem (inT3 _ (List.mem_of_getElem? (i := 132) rfl)) rfl
theorem mw_954 : Cond.selects RX7 yX7_crossings yX7_crossings ∈ GW := gw_mem (inT3 _ (List.mem_of_getElem? (i := 133) rfl)) rfl
theorem mw_955 : Cond.code yX8_crossings cX8_crossings 1 (some Jvm.ClassFile.FieldType.int) ∈ GW := gw_mem (inT7 _ (List.mem_of_getElem? (i := 180) rfl)) rfl
theorem mw_956 : Cond.methodLink RL 255 yX8_crossings ∈ GW := gw_mem (inT7 _ (List.mem_of_getElem? (i := 177) rfl)) rfl
theorem mw_957 : Cond.instanceMethod yX8_crossings ∈ GW := gw_mem (inT7 _ (List.mem_of_getElem? (i := 178) rfl)) rfl
theorem mw_958 : Cond.selects RX8 yX8_crossings yX8_crossings ∈ GW := gw_mem (inT7 _ (List.mem_of_getElem? (i := 179) rfl)) rfl
theorem mw_959 : Cond.codeWith yL_sweep cL_sweep 4 (some Jvm.ClassFile.FieldType.int) [((0), (9), (12), (13))] ∈ GW := gw_mem (inT5 _ (List.mem_of_getElem? (i := 114) rfl)) rfl
theorem mw_960 : Cond.methodLink RL 256 yL_sweep ∈ GW := gw_mem (inT5 _ (List.mem_of_getElem? (i := 112) rfl)) rfl
theorem mw_961 : Cond.static yL_sweep ∈ GW := gw_mem (inT5 _ (List.mem_of_getElem? (i := 113) rfl)) rfl
theorem mw_962 : Cond.code yX8_sweep cX8_sweep 3 (some Jvm.ClassFile.FieldType.int) ∈ GW := gw_mem (inT7 _ (List.mem_of_getElem? (i := 188) rfl)) rfl
theorem mw_963 : Cond.methodLink RL 258 yX8_sweep ∈ GW := gw_mem (inT7 _ (List.mem_of_getElem? (i := 185) rfl)) rfl
theorem mw_964 : Cond.instanceMethod yX8_sweep ∈ GW := gw_mem (inT7 _ (List.mem_of_getElem? (i := 186) rfl)) rfl
theorem mw_965 : Cond.selects RX8 yX8_sweep yX8_sweep ∈ GW := gw_mem (inT7 _ (List.mem_of_getElem? (i := 187) rfl)) rfl
theorem mw_966 : Cond.codeWith yL_wouldCross cL_wouldCross 4 (some Jvm.ClassFile.FieldType.int) [((0), (9), (12), (13))] ∈ GW := gw_mem (inT5 _ (List.mem_of_getElem? (i := 143) rfl)) rfl
theorem mw_967 : Cond.methodLink RL 259 yL_wouldCross ∈ GW := gw_mem (inT5 _ (List.mem_of_getElem? (i := 141) rfl)) rfl
theorem mw_968 : Cond.static yL_wouldCross ∈ GW := gw_mem (inT5 _ (List.mem_of_getElem? (i := 142) rfl)) rfl
theorem mw_969 : Cond.code yX8_wouldCross cX8_wouldCross 2 (some Jvm.ClassFile.FieldType.int) ∈ GW := gw_mem (inT7 _ (List.mem_of_getElem? (i := 208) rfl)) rfl
theorem mw_970 : Cond.methodLink RL 261 yX8_wouldCross ∈ GW := gw_mem (inT7 _ (List.mem_of_getElem? (i := 205) rfl)) rfl
theorem mw_971 : Cond.instanceMethod yX8_wouldCross ∈ GW := gw_mem (inT7 _ (List.mem_of_getElem? (i := 206) rfl)) rfl
theorem mw_972 : Cond.selects RX8 yX8_wouldCross yX8_wouldCross ∈ GW := gw_mem (inT7 _ (List.mem_of_getElem? (i := 207) rfl)) rfl
theorem mw_973 : Cond.code yX7_swept cX7_swept 1 (some Jvm.ClassFile.FieldType.int) ∈ GW := gw_mem (inT3 _ (List.mem_of_getElem? (i := 150) rfl)) rfl
theorem mw_974 : Cond.methodLink RL 262 yX7_swept ∈ GW := gw_mem (inT3 _ (List.mem_of_getElem? (i := 147) rfl)) rfl
theorem mw_975 : Cond.instanceMethod yX7_swept ∈ GW := gw_mem (inT3 _ (List.mem_of_getElem? (i := 148) rfl)) rfl
theorem mw_976 : Cond.selects RX7 yX7_swept yX7_swept ∈ GW := gw_mem (inT3 _ (List.mem_of_getElem? (i := 149) rfl)) rfl
theorem mw_977 : Cond.code yX8_swept_ cX8_swept_ 1 (some Jvm.ClassFile.FieldType.int) ∈ GW := gw_mem (inT7 _ (List.mem_of_getElem? (i := 217) rfl)) rfl
theorem mw_978 : Cond.methodLink RL 265 yX8_swept_ ∈ GW := gw_mem (inT7 _ (List.mem_of_getElem? (i := 214) rfl)) rfl
theorem mw_979 : Cond.instanceMethod yX8_swept_ ∈ GW := gw_mem (inT7 _ (List.mem_of_getElem? (i := 215) rfl)) rfl
theorem mw_980 : Cond.selects RX8 yX8_swept_ yX8_swept_ ∈ GW := gw_mem (inT7 _ (List.mem_of_getElem? (i := 216) rfl)) rfl
theorem mw_981 : Cond.code yX7_meanLength cX7_meanLength 1 (some Jvm.ClassFile.FieldType.double) ∈ GW := gw_mem (inT3 _ (List.mem_of_getElem? (i := 154) rfl)) rfl
theorem mw_982 : Cond.methodLink RL 266 yX7_meanLength ∈ GW := gw_mem (inT3 _ (List.mem_of_getElem? (i := 151) rfl)) rfl
theorem mw_983 : Cond.instanceMethod yX7_meanLength ∈ GW := gw_mem (inT3 _ (List.mem_of_getElem? (i := 152) rfl)) rfl
theorem mw_984 : Cond.selects RX7 yX7_meanLength yX7_meanLength ∈ GW := gw_mem (inT3 _ (List.mem_of_getElem? (i := 153) rfl)) rfl
theorem mw_985 : Cond.code yX8_meanLength cX8_meanLength 4 (some Jvm.ClassFile.FieldType.double) ∈ GW := gw_mem (inT7 _ (List.mem_of_getElem? (i := 221) rfl)) rfl
theorem mw_986 : Cond.methodLink RL 270 yX8_meanLength ∈ GW := gw_mem (inT7 _ (List.mem_of_getElem? (i := 218) rfl)) rfl
theorem mw_987 : Cond.instanceMethod yX8_meanLength ∈ GW := gw_mem (inT7 _ (List.mem_of_getElem? (i := 219) rfl)) rfl
theorem mw_988 : Cond.selects RX8 yX8_meanLength yX8_meanLength ∈ GW := gw_mem (inT7 _ (List.mem_of_getElem? (i := 220) rfl)) rfl
theorem mw_989 : Cond.code yX7_digest cX7_digest 3 (some Jvm.ClassFile.FieldType.long) ∈ GW := gw_mem (inT3 _ (List.mem_of_getElem? (i := 162) rfl)) rfl
theorem mw_990 : Cond.methodLink RL 271 yX7_digest ∈ GW := gw_mem (inT3 _ (List.mem_of_getElem? (i := 159) rfl)) rfl
theorem mw_991 : Cond.instanceMethod yX7_digest ∈ GW := gw_mem (inT3 _ (List.mem_of_getElem? (i := 160) rfl)) rfl
theorem mw_992 : Cond.selects RX7 yX7_digest yX7_digest ∈ GW := gw_mem (inT3 _ (List.mem_of_getElem? (i := 161) rfl)) rfl
theorem mw_993 : Cond.code yX8_digest cX8_digest 6 (some Jvm.ClassFile.FieldType.long) ∈ GW := gw_mem (inT7 _ (List.mem_of_getElem? (i := 225) rfl)) rfl
theorem mw_994 : Cond.methodLink RL 275 yX8_digest ∈ GW := gw_mem (inT7 _ (List.mem_of_getElem? (i := 222) rfl)) rfl
theorem mw_995 : Cond.instanceMethod yX8_digest ∈ GW := gw_mem (inT7 _ (List.mem_of_getElem? (i := 223) rfl)) rfl
theorem mw_996 : Cond.selects RX8 yX8_digest yX8_digest ∈ GW := gw_mem (inT7 _ (List.mem_of_getElem? (i := 224) rfl)) rfl
theorem pd_L_insert : yL_insert.cls ≠ "java/lang/invoke/MethodHandle" ∧ yL_insert.cls ≠ "java/lang/invoke/VarHandle" ∧ (parseMethodDescriptor yL_insert.desc).map (fun d => d.parameters.length) = some 5 := by decide +kernel
theorem pdv_X8_insert : yX8_insert.cls = RX8 ∧ yX8_insert.cls ≠ "java/lang/invoke/MethodHandle" ∧ yX8_insert.cls ≠ "java/lang/invoke/VarHandle" ∧ (parseMethodDescriptor yX8_insert.desc).map (fun d => d.parameters.length) = some 3 := by decide +kernel
theorem pdv_X8_thrown : yX8_thrown.cls = RX8 ∧ yX8_thrown.cls ≠ "java/lang/invoke/MethodHandle" ∧ yX8_thrown.cls ≠ "java/lang/invoke/VarHandle" ∧ (parseMethodDescriptor yX8_thrown.desc).map (fun d => d.parameters.length) = some 0 := by decide +kernel
theorem pd_L_remove : yL_remove.cls ≠ "java/lang/invoke/MethodHandle" ∧ yL_remove.cls ≠ "java/lang/invoke/VarHandle" ∧ (parseMethodDescriptor yL_remove.desc).map (fun d => d.parameters.length) = some 3 := by decide +kernel
theorem pdv_X8_remove : yX8_remove.cls = RX8 ∧ yX8_remove.cls ≠ "java/lang/invoke/MethodHandle" ∧ yX8_remove.cls ≠ "java/lang/invoke/VarHandle" ∧ (parseMethodDescriptor yX8_remove.desc).map (fun d => d.parameters.length) = some 1 := by decide +kernel
theorem pd_L_setTarget : yL_setTarget.cls ≠ "java/lang/invoke/MethodHandle" ∧ yL_setTarget.cls ≠ "java/lang/invoke/VarHandle" ∧ (parseMethodDescriptor yL_setTarget.desc).map (fun d => d.parameters.length) = some 4 := by decide +kernel
theorem pdv_X8_setTarget : yX8_setTarget.cls = RX8 ∧ yX8_setTarget.cls ≠ "java/lang/invoke/MethodHandle" ∧ yX8_setTarget.cls ≠ "java/lang/invoke/VarHandle" ∧ (parseMethodDescriptor yX8_setTarget.desc).map (fun d => d.parameters.length) = some 2 := by decide +kernel
theorem pd_L_setUse : yL_setUse.cls ≠ "java/lang/invoke/MethodHandle" ∧ yL_setUse.cls ≠ "java/lang/invoke/VarHandle" ∧ (parseMethodDescriptor yL_setUse.desc).map (fun d => d.parameters.length) = some 5 := by decide +kernel
theorem pdv_X8_setUse : yX8_setUse.cls = RX8 ∧ yX8_setUse.cls ≠ "java/lang/invoke/MethodHandle" ∧ yX8_setUse.cls ≠ "java/lang/invoke/VarHandle" ∧ (parseMethodDescriptor yX8_setUse.desc).map (fun d => d.parameters.length) = some 3 := by decide +kernel
theorem pdv_X7_instructions : yX7_instructions.cls = RX7 ∧ yX7_instructions.cls ≠ "java/lang/invoke/MethodHandle" ∧ yX7_instructions.cls ≠ "java/lang/invoke/VarHandle" ∧ (parseMethodDescriptor yX7_instructions.desc).map (fun d => d.parameters.length) = some 0 := by decide +kernel
theorem pdv_X8_instructions : yX8_instructions.cls = RX8 ∧ yX8_instructions.cls ≠ "java/lang/invoke/MethodHandle" ∧ yX8_instructions.cls ≠ "java/lang/invoke/VarHandle" ∧ (parseMethodDescriptor yX8_instructions.desc).map (fun d => d.parameters.length) = some 0 := by decide +kernel
theorem pd_L_kindOf : yL_kindOf.cls ≠ "java/lang/invoke/MethodHandle" ∧ yL_kindOf.cls ≠ "java/lang/invoke/VarHandle" ∧ (parseMethodDescriptor yL_kindOf.desc).map (fun d => d.parameters.length) = some 3 := by decide +kernel
theorem pdv_X8_kindOf : yX8_kindOf.cls = RX8 ∧ yX8_kindOf.cls ≠ "java/lang/invoke/MethodHandle" ∧ yX8_kindOf.cls ≠ "java/lang/invoke/VarHandle" ∧ (parseMethodDescriptor yX8_kindOf.desc).map (fun d => d.parameters.length) = some 1 := by decide +kernel
theorem pd_L_targetOf : yL_targetOf.cls ≠ "java/lang/invoke/MethodHandle" ∧ yL_targetOf.cls ≠ "java/lang/invoke/VarHandle" ∧ (parseMethodDescriptor yL_targetOf.desc).map (fun d => d.parameters.length) = some 3 := by decide +kernel
theorem pdv_X8_targetOf : yX8_targetOf.cls = RX8 ∧ yX8_targetOf.cls ≠ "java/lang/invoke/MethodHandle" ∧ yX8_targetOf.cls ≠ "java/lang/invoke/VarHandle" ∧ (parseMethodDescriptor yX8_targetOf.desc).map (fun d => d.parameters.length) = some 1 := by decide +kernel
theorem pdv_X7_blocks : yX7_blocks.cls = RX7 ∧ yX7_blocks.cls ≠ "java/lang/invoke/MethodHandle" ∧ yX7_blocks.cls ≠ "java/lang/invoke/VarHandle" ∧ (parseMethodDescriptor yX7_blocks.desc).map (fun d => d.parameters.length) = some 0 := by decide +kernel
theorem pdv_X8_blocks : yX8_blocks.cls = RX8 ∧ yX8_blocks.cls ≠ "java/lang/invoke/MethodHandle" ∧ yX8_blocks.cls ≠ "java/lang/invoke/VarHandle" ∧ (parseMethodDescriptor yX8_blocks.desc).map (fun d => d.parameters.length) = some 0 := by decide +kernel
theorem pd_L_blockOf : yL_blockOf.cls ≠ "java/lang/invoke/MethodHandle" ∧ yL_blockOf.cls ≠ "java/lang/invoke/VarHandle" ∧ (parseMethodDescriptor yL_blockOf.desc).map (fun d => d.parameters.length) = some 3 := by decide +kernel
theorem pdv_X8_blockOf : yX8_blockOf.cls = RX8 ∧ yX8_blockOf.cls ≠ "java/lang/invoke/MethodHandle" ∧ yX8_blockOf.cls ≠ "java/lang/invoke/VarHandle" ∧ (parseMethodDescriptor yX8_blockOf.desc).map (fun d => d.parameters.length) = some 1 := by decide +kernel
theorem pd_L_firstOf : yL_firstOf.cls ≠ "java/lang/invoke/MethodHandle" ∧ yL_firstOf.cls ≠ "java/lang/invoke/VarHandle" ∧ (parseMethodDescriptor yL_firstOf.desc).map (fun d => d.parameters.length) = some 3 := by decide +kernel
theorem pdv_X8_firstOf : yX8_firstOf.cls = RX8 ∧ yX8_firstOf.cls ≠ "java/lang/invoke/MethodHandle" ∧ yX8_firstOf.cls ≠ "java/lang/invoke/VarHandle" ∧ (parseMethodDescriptor yX8_firstOf.desc).map (fun d => d.parameters.length) = some 1 := by decide +kernel
theorem pd_L_isReached : yL_isReached.cls ≠ "java/lang/invoke/MethodHandle" ∧ yL_isReached.cls ≠ "java/lang/invoke/VarHandle" ∧ (parseMethodDescriptor yL_isReached.desc).map (fun d => d.parameters.length) = some 3 := by decide +kernel
theorem pdv_X8_isReached : yX8_isReached.cls = RX8 ∧ yX8_isReached.cls ≠ "java/lang/invoke/MethodHandle" ∧ yX8_isReached.cls ≠ "java/lang/invoke/VarHandle" ∧ (parseMethodDescriptor yX8_isReached.desc).map (fun d => d.parameters.length) = some 1 := by decide +kernel
theorem pdv_X7_edges : yX7_edges.cls = RX7 ∧ yX7_edges.cls ≠ "java/lang/invoke/MethodHandle" ∧ yX7_edges.cls ≠ "java/lang/invoke/VarHandle" ∧ (parseMethodDescriptor yX7_edges.desc).map (fun d => d.parameters.length) = some 0 := by decide +kernel
theorem pdv_X8_edges : yX8_edges.cls = RX8 ∧ yX8_edges.cls ≠ "java/lang/invoke/MethodHandle" ∧ yX8_edges.cls ≠ "java/lang/invoke/VarHandle" ∧ (parseMethodDescriptor yX8_edges.desc).map (fun d => d.parameters.length) = some 0 := by decide +kernel
theorem pd_L_edgeFrom : yL_edgeFrom.cls ≠ "java/lang/invoke/MethodHandle" ∧ yL_edgeFrom.cls ≠ "java/lang/invoke/VarHandle" ∧ (parseMethodDescriptor yL_edgeFrom.desc).map (fun d => d.parameters.length) = some 3 := by decide +kernel
theorem pdv_X8_edgeFrom : yX8_edgeFrom.cls = RX8 ∧ yX8_edgeFrom.cls ≠ "java/lang/invoke/MethodHandle" ∧ yX8_edgeFrom.cls ≠ "java/lang/invoke/VarHandle" ∧ (parseMethodDescriptor yX8_edgeFrom.desc).map (fun d => d.parameters.length) = some 1 := by decide +kernel
theorem pd_L_edgeTo : yL_edgeTo.cls ≠ "java/lang/invoke/MethodHandle" ∧ yL_edgeTo.cls ≠ "java/lang/invoke/VarHandle" ∧ (parseMethodDescriptor yL_edgeTo.desc).map (fun d => d.parameters.length) = some 3 := by decide +kernel
theorem pdv_X8_edgeTo : yX8_edgeTo.cls = RX8 ∧ yX8_edgeTo.cls ≠ "java/lang/invoke/MethodHandle" ∧ yX8_edgeTo.cls ≠ "java/lang/invoke/VarHandle" ∧ (parseMethodDescriptor yX8_edgeTo.desc).map (fun d => d.parameters.length) = some 1 := by decide +kernel
theorem pd_L_dominates : yL_dominates.cls ≠ "java/lang/invoke/MethodHandle" ∧ yL_dominates.cls ≠ "java/lang/invoke/VarHandle" ∧ (parseMethodDescriptor yL_dominates.desc).map (fun d => d.parameters.length) = some 4 := by decide +kernel
theorem pdv_X8_dominates : yX8_dominates.cls = RX8 ∧ yX8_dominates.cls ≠ "java/lang/invoke/MethodHandle" ∧ yX8_dominates.cls ≠ "java/lang/invoke/VarHandle" ∧ (parseMethodDescriptor yX8_dominates.desc).map (fun d => d.parameters.length) = some 2 := by decide +kernel
theorem pd_L_parentOf : yL_parentOf.cls ≠ "java/lang/invoke/MethodHandle" ∧ yL_parentOf.cls ≠ "java/lang/invoke/VarHandle" ∧ (parseMethodDescriptor yL_parentOf.desc).map (fun d => d.parameters.length) = some 3 := by decide +kernel
theorem pdv_X8_parentOf : yX8_parentOf.cls = RX8 ∧ yX8_parentOf.cls ≠ "java/lang/invoke/MethodHandle" ∧ yX8_parentOf.cls ≠ "java/lang/invoke/VarHandle" ∧ (parseMethodDescriptor yX8_parentOf.desc).map (fun d => d.parameters.length) = some 1 := by decide +kernel
theorem pd_L_comesBehind : yL_comesBehind.cls ≠ "java/lang/invoke/MethodHandle" ∧ yL_comesBehind.cls ≠ "java/lang/invoke/VarHandle" ∧ (parseMethodDescriptor yL_comesBehind.desc).map (fun d => d.parameters.length) = some 4 := by decide +kernel
theorem pdv_X8_comesBehind : yX8_comesBehind.cls = RX8 ∧ yX8_comesBehind.cls ≠ "java/lang/invoke/MethodHandle" ∧ yX8_comesBehind.cls ≠ "java/lang/invoke/VarHandle" ∧ (parseMethodDescriptor yX8_comesBehind.desc).map (fun d => d.parameters.length) = some 2 := by decide +kernel
theorem pd_L_isBack : yL_isBack.cls ≠ "java/lang/invoke/MethodHandle" ∧ yL_isBack.cls ≠ "java/lang/invoke/VarHandle" ∧ (parseMethodDescriptor yL_isBack.desc).map (fun d => d.parameters.length) = some 3 := by decide +kernel
theorem pdv_X8_isBack : yX8_isBack.cls = RX8 ∧ yX8_isBack.cls ≠ "java/lang/invoke/MethodHandle" ∧ yX8_isBack.cls ≠ "java/lang/invoke/VarHandle" ∧ (parseMethodDescriptor yX8_isBack.desc).map (fun d => d.parameters.length) = some 1 := by decide +kernel
theorem pdv_X7_loops : yX7_loops.cls = RX7 ∧ yX7_loops.cls ≠ "java/lang/invoke/MethodHandle" ∧ yX7_loops.cls ≠ "java/lang/invoke/VarHandle" ∧ (parseMethodDescriptor yX7_loops.desc).map (fun d => d.parameters.length) = some 0 := by decide +kernel
theorem pdv_X8_loops : yX8_loops.cls = RX8 ∧ yX8_loops.cls ≠ "java/lang/invoke/MethodHandle" ∧ yX8_loops.cls ≠ "java/lang/invoke/VarHandle" ∧ (parseMethodDescriptor yX8_loops.desc).map (fun d => d.parameters.length) = some 0 := by decide +kernel
theorem pd_L_loopSize : yL_loopSize.cls ≠ "java/lang/invoke/MethodHandle" ∧ yL_loopSize.cls ≠ "java/lang/invoke/VarHandle" ∧ (parseMethodDescriptor yL_loopSize.desc).map (fun d => d.parameters.length) = some 3 := by decide +kernel
theorem pdv_X8_loopSize : yX8_loopSize.cls = RX8 ∧ yX8_loopSize.cls ≠ "java/lang/invoke/MethodHandle" ∧ yX8_loopSize.cls ≠ "java/lang/invoke/VarHandle" ∧ (parseMethodDescriptor yX8_loopSize.desc).map (fun d => d.parameters.length) = some 1 := by decide +kernel
theorem pd_L_depthOf : yL_depthOf.cls ≠ "java/lang/invoke/MethodHandle" ∧ yL_depthOf.cls ≠ "java/lang/invoke/VarHandle" ∧ (parseMethodDescriptor yL_depthOf.desc).map (fun d => d.parameters.length) = some 3 := by decide +kernel
theorem pdv_X8_depthOf : yX8_depthOf.cls = RX8 ∧ yX8_depthOf.cls ≠ "java/lang/invoke/MethodHandle" ∧ yX8_depthOf.cls ≠ "java/lang/invoke/VarHandle" ∧ (parseMethodDescriptor yX8_depthOf.desc).map (fun d => d.parameters.length) = some 1 := by decide +kernel
theorem pdv_X7_isTame : yX7_isTame.cls = RX7 ∧ yX7_isTame.cls ≠ "java/lang/invoke/MethodHandle" ∧ yX7_isTame.cls ≠ "java/lang/invoke/VarHandle" ∧ (parseMethodDescriptor yX7_isTame.desc).map (fun d => d.parameters.length) = some 0 := by decide +kernel
theorem pdv_X8_isTame : yX8_isTame.cls = RX8 ∧ yX8_isTame.cls ≠ "java/lang/invoke/MethodHandle" ∧ yX8_isTame.cls ≠ "java/lang/invoke/VarHandle" ∧ (parseMethodDescriptor yX8_isTame.desc).map (fun d => d.parameters.length) = some 0 := by decide +kernel
theorem pd_L_liveIn : yL_liveIn.cls ≠ "java/lang/invoke/MethodHandle" ∧ yL_liveIn.cls ≠ "java/lang/invoke/VarHandle" ∧ (parseMethodDescriptor yL_liveIn.desc).map (fun d => d.parameters.length) = some 3 := by decide +kernel
theorem pdv_X8_liveIn : yX8_liveIn.cls = RX8 ∧ yX8_liveIn.cls ≠ "java/lang/invoke/MethodHandle" ∧ yX8_liveIn.cls ≠ "java/lang/invoke/VarHandle" ∧ (parseMethodDescriptor yX8_liveIn.desc).map (fun d => d.parameters.length) = some 1 := by decide +kernel
theorem pdv_X7_vain : yX7_vain.cls = RX7 ∧ yX7_vain.cls ≠ "java/lang/invoke/MethodHandle" ∧ yX7_vain.cls ≠ "java/lang/invoke/VarHandle" ∧ (parseMethodDescriptor yX7_vain.desc).map (fun d => d.parameters.length) = some 0 := by decide +kernel
theorem pdv_X8_vain : yX8_vain.cls = RX8 ∧ yX8_vain.cls ≠ "java/lang/invoke/MethodHandle" ∧ yX8_vain.cls ≠ "java/lang/invoke/VarHandle" ∧ (parseMethodDescriptor yX8_vain.desc).map (fun d => d.parameters.length) = some 0 := by decide +kernel
theorem pdv_X7_windings : yX7_windings.cls = RX7 ∧ yX7_windings.cls ≠ "java/lang/invoke/MethodHandle" ∧ yX7_windings.cls ≠ "java/lang/invoke/VarHandle" ∧ (parseMethodDescriptor yX7_windings.desc).map (fun d => d.parameters.length) = some 0 := by decide +kernel
theorem pdv_X8_windings : yX8_windings.cls = RX8 ∧ yX8_windings.cls ≠ "java/lang/invoke/MethodHandle" ∧ yX8_windings.cls ≠ "java/lang/invoke/VarHandle" ∧ (parseMethodDescriptor yX8_windings.desc).map (fun d => d.parameters.length) = some 0 := by decide +kernel
theorem pdv_X7_steps : yX7_steps.cls = RX7 ∧ yX7_steps.cls ≠ "java/lang/invoke/MethodHandle" ∧ yX7_steps.cls ≠ "java/lang/invoke/VarHandle" ∧ (parseMethodDescriptor yX7_steps.desc).map (fun d => d.parameters.length) = some 0 := by decide +kernel
theorem pdv_X8_steps : yX8_steps.cls = RX8 ∧ yX8_steps.cls ≠ "java/lang/invoke/MethodHandle" ∧ yX8_steps.cls ≠ "java/lang/invoke/VarHandle" ∧ (parseMethodDescriptor yX8_steps.desc).map (fun d => d.parameters.length) = some 0 := by decide +kernel
theorem pd_L_ruleOf : yL_ruleOf.cls ≠ "java/lang/invoke/MethodHandle" ∧ yL_ruleOf.cls ≠ "java/lang/invoke/VarHandle" ∧ (parseMethodDescriptor yL_ruleOf.desc).map (fun d => d.parameters.length) = some 3 := by decide +kernel
theorem pdv_X8_ruleOf : yX8_ruleOf.cls = RX8 ∧ yX8_ruleOf.cls ≠ "java/lang/invoke/MethodHandle" ∧ yX8_ruleOf.cls ≠ "java/lang/invoke/VarHandle" ∧ (parseMethodDescriptor yX8_ruleOf.desc).map (fun d => d.parameters.length) = some 1 := by decide +kernel
theorem pd_L_nodeOf : yL_nodeOf.cls ≠ "java/lang/invoke/MethodHandle" ∧ yL_nodeOf.cls ≠ "java/lang/invoke/VarHandle" ∧ (parseMethodDescriptor yL_nodeOf.desc).map (fun d => d.parameters.length) = some 3 := by decide +kernel
theorem pdv_X8_nodeOf : yX8_nodeOf.cls = RX8 ∧ yX8_nodeOf.cls ≠ "java/lang/invoke/MethodHandle" ∧ yX8_nodeOf.cls ≠ "java/lang/invoke/VarHandle" ∧ (parseMethodDescriptor yX8_nodeOf.desc).map (fun d => d.parameters.length) = some 1 := by decide +kernel
theorem pdv_X7_left : yX7_left.cls = RX7 ∧ yX7_left.cls ≠ "java/lang/invoke/MethodHandle" ∧ yX7_left.cls ≠ "java/lang/invoke/VarHandle" ∧ (parseMethodDescriptor yX7_left.desc).map (fun d => d.parameters.length) = some 0 := by decide +kernel
theorem pdv_X8_left : yX8_left.cls = RX8 ∧ yX8_left.cls ≠ "java/lang/invoke/MethodHandle" ∧ yX8_left.cls ≠ "java/lang/invoke/VarHandle" ∧ (parseMethodDescriptor yX8_left.desc).map (fun d => d.parameters.length) = some 0 := by decide +kernel
theorem pdv_X7_isNeat : yX7_isNeat.cls = RX7 ∧ yX7_isNeat.cls ≠ "java/lang/invoke/MethodHandle" ∧ yX7_isNeat.cls ≠ "java/lang/invoke/VarHandle" ∧ (parseMethodDescriptor yX7_isNeat.desc).map (fun d => d.parameters.length) = some 0 := by decide +kernel
theorem pdv_X8_isNeat : yX8_isNeat.cls = RX8 ∧ yX8_isNeat.cls ≠ "java/lang/invoke/MethodHandle" ∧ yX8_isNeat.cls ≠ "java/lang/invoke/VarHandle" ∧ (parseMethodDescriptor yX8_isNeat.desc).map (fun d => d.parameters.length) = some 0 := by decide +kernel
theorem pd_L_endsIn : yL_endsIn.cls ≠ "java/lang/invoke/MethodHandle" ∧ yL_endsIn.cls ≠ "java/lang/invoke/VarHandle" ∧ (parseMethodDescriptor yL_endsIn.desc).map (fun d => d.parameters.length) = some 3 := by decide +kernel
theorem pdv_X8_endsIn : yX8_endsIn.cls = RX8 ∧ yX8_endsIn.cls ≠ "java/lang/invoke/MethodHandle" ∧ yX8_endsIn.cls ≠ "java/lang/invoke/VarHandle" ∧ (parseMethodDescriptor yX8_endsIn.desc).map (fun d => d.parameters.length) = some 1 := by decide +kernel
theorem pdv_X7_layers : yX7_layers.cls = RX7 ∧ yX7_layers.cls ≠ "java/lang/invoke/MethodHandle" ∧ yX7_layers.cls ≠ "java/lang/invoke/VarHandle" ∧ (parseMethodDescriptor yX7_layers.desc).map (fun d => d.parameters.length) = some 0 := by decide +kernel
theorem pdv_X8_layers : yX8_layers.cls = RX8 ∧ yX8_layers.cls ≠ "java/lang/invoke/MethodHandle" ∧ yX8_layers.cls ≠ "java/lang/invoke/VarHandle" ∧ (parseMethodDescriptor yX8_layers.desc).map (fun d => d.parameters.length) = some 0 := by decide +kernel
theorem pd_L_layerOf : yL_layerOf.cls ≠ "java/lang/invoke/MethodHandle" ∧ yL_layerOf.cls ≠ "java/lang/invoke/VarHandle" ∧ (parseMethodDescriptor yL_layerOf.desc).map (fun d => d.parameters.length) = some 3 := by decide +kernel
theorem pdv_X8_layerOf : yX8_layerOf.cls = RX8 ∧ yX8_layerOf.cls ≠ "java/lang/invoke/MethodHandle" ∧ yX8_layerOf.cls ≠ "java/lang/invoke/VarHandle" ∧ (parseMethodDescriptor yX8_layerOf.desc).map (fun d => d.parameters.length) = some 1 := by decide +kernel
theorem pd_L_isTurned : yL_isTurned.cls ≠ "java/lang/invoke/MethodHandle" ∧ yL_isTurned.cls ≠ "java/lang/invoke/VarHandle" ∧ (parseMethodDescriptor yL_isTurned.desc).map (fun d => d.parameters.length) = some 3 := by decide +kernel
theorem pdv_X8_isTurned : yX8_isTurned.cls = RX8 ∧ yX8_isTurned.cls ≠ "java/lang/invoke/MethodHandle" ∧ yX8_isTurned.cls ≠ "java/lang/invoke/VarHandle" ∧ (parseMethodDescriptor yX8_isTurned.desc).map (fun d => d.parameters.length) = some 1 := by decide +kernel
theorem pd_L_points : yL_points.cls ≠ "java/lang/invoke/MethodHandle" ∧ yL_points.cls ≠ "java/lang/invoke/VarHandle" ∧ (parseMethodDescriptor yL_points.desc).map (fun d => d.parameters.length) = some 3 := by decide +kernel
theorem pdv_X8_points : yX8_points.cls = RX8 ∧ yX8_points.cls ≠ "java/lang/invoke/MethodHandle" ∧ yX8_points.cls ≠ "java/lang/invoke/VarHandle" ∧ (parseMethodDescriptor yX8_points.desc).map (fun d => d.parameters.length) = some 1 := by decide +kernel
theorem pd_L_pointAt : yL_pointAt.cls ≠ "java/lang/invoke/MethodHandle" ∧ yL_pointAt.cls ≠ "java/lang/invoke/VarHandle" ∧ (parseMethodDescriptor yL_pointAt.desc).map (fun d => d.parameters.length) = some 4 := by decide +kernel
theorem pdv_X8_pointAt : yX8_pointAt.cls = RX8 ∧ yX8_pointAt.cls ≠ "java/lang/invoke/MethodHandle" ∧ yX8_pointAt.cls ≠ "java/lang/invoke/VarHandle" ∧ (parseMethodDescriptor yX8_pointAt.desc).map (fun d => d.parameters.length) = some 2 := by decide +kernel
theorem pd_L_placeOf : yL_placeOf.cls ≠ "java/lang/invoke/MethodHandle" ∧ yL_placeOf.cls ≠ "java/lang/invoke/VarHandle" ∧ (parseMethodDescriptor yL_placeOf.desc).map (fun d => d.parameters.length) = some 3 := by decide +kernel
theorem pdv_X8_placeOf : yX8_placeOf.cls = RX8 ∧ yX8_placeOf.cls ≠ "java/lang/invoke/MethodHandle" ∧ yX8_placeOf.cls ≠ "java/lang/invoke/VarHandle" ∧ (parseMethodDescriptor yX8_placeOf.desc).map (fun d => d.parameters.length) = some 1 := by decide +kernel
theorem pd_L_bends : yL_bends.cls ≠ "java/lang/invoke/MethodHandle" ∧ yL_bends.cls ≠ "java/lang/invoke/VarHandle" ∧ (parseMethodDescriptor yL_bends.desc).map (fun d => d.parameters.length) = some 3 := by decide +kernel
theorem pdv_X8_bends : yX8_bends.cls = RX8 ∧ yX8_bends.cls ≠ "java/lang/invoke/MethodHandle" ∧ yX8_bends.cls ≠ "java/lang/invoke/VarHandle" ∧ (parseMethodDescriptor yX8_bends.desc).map (fun d => d.parameters.length) = some 1 := by decide +kernel
theorem pd_L_bendAt : yL_bendAt.cls ≠ "java/lang/invoke/MethodHandle" ∧ yL_bendAt.cls ≠ "java/lang/invoke/VarHandle" ∧ (parseMethodDescriptor yL_bendAt.desc).map (fun d => d.parameters.length) = some 4 := by decide +kernel
theorem pdv_X8_bendAt : yX8_bendAt.cls = RX8 ∧ yX8_bendAt.cls ≠ "java/lang/invoke/MethodHandle" ∧ yX8_bendAt.cls ≠ "java/lang/invoke/VarHandle" ∧ (parseMethodDescriptor yX8_bendAt.desc).map (fun d => d.parameters.length) = some 2 := by decide +kernel
theorem pdv_X7_crossings : yX7_crossings.cls = RX7 ∧ yX7_crossings.cls ≠ "java/lang/invoke/MethodHandle" ∧ yX7_crossings.cls ≠ "java/lang/invoke/VarHandle" ∧ (parseMethodDescriptor yX7_crossings.desc).map (fun d => d.parameters.length) = some 0 := by decide +kernel
theorem pdv_X8_crossings : yX8_crossings.cls = RX8 ∧ yX8_crossings.cls ≠ "java/lang/invoke/MethodHandle" ∧ yX8_crossings.cls ≠ "java/lang/invoke/VarHandle" ∧ (parseMethodDescriptor yX8_crossings.desc).map (fun d => d.parameters.length) = some 0 := by decide +kernel
theorem pd_L_sweep : yL_sweep.cls ≠ "java/lang/invoke/MethodHandle" ∧ yL_sweep.cls ≠ "java/lang/invoke/VarHandle" ∧ (parseMethodDescriptor yL_sweep.desc).map (fun d => d.parameters.length) = some 3 := by decide +kernel
theorem pdv_X8_sweep : yX8_sweep.cls = RX8 ∧ yX8_sweep.cls ≠ "java/lang/invoke/MethodHandle" ∧ yX8_sweep.cls ≠ "java/lang/invoke/VarHandle" ∧ (parseMethodDescriptor yX8_sweep.desc).map (fun d => d.parameters.length) = some 1 := by decide +kernel
theorem pd_L_wouldCross : yL_wouldCross.cls ≠ "java/lang/invoke/MethodHandle" ∧ yL_wouldCross.cls ≠ "java/lang/invoke/VarHandle" ∧ (parseMethodDescriptor yL_wouldCross.desc).map (fun d => d.parameters.length) = some 3 := by decide +kernel
theorem pdv_X8_wouldCross : yX8_wouldCross.cls = RX8 ∧ yX8_wouldCross.cls ≠ "java/lang/invoke/MethodHandle" ∧ yX8_wouldCross.cls ≠ "java/lang/invoke/VarHandle" ∧ (parseMethodDescriptor yX8_wouldCross.desc).map (fun d => d.parameters.length) = some 1 := by decide +kernel
theorem pdv_X7_swept : yX7_swept.cls = RX7 ∧ yX7_swept.cls ≠ "java/lang/invoke/MethodHandle" ∧ yX7_swept.cls ≠ "java/lang/invoke/VarHandle" ∧ (parseMethodDescriptor yX7_swept.desc).map (fun d => d.parameters.length) = some 0 := by decide +kernel
theorem pdv_X8_swept_ : yX8_swept_.cls = RX8 ∧ yX8_swept_.cls ≠ "java/lang/invoke/MethodHandle" ∧ yX8_swept_.cls ≠ "java/lang/invoke/VarHandle" ∧ (parseMethodDescriptor yX8_swept_.desc).map (fun d => d.parameters.length) = some 0 := by decide +kernel
theorem pdv_X7_meanLength : yX7_meanLength.cls = RX7 ∧ yX7_meanLength.cls ≠ "java/lang/invoke/MethodHandle" ∧ yX7_meanLength.cls ≠ "java/lang/invoke/VarHandle" ∧ (parseMethodDescriptor yX7_meanLength.desc).map (fun d => d.parameters.length) = some 0 := by decide +kernel
theorem pdv_X8_meanLength : yX8_meanLength.cls = RX8 ∧ yX8_meanLength.cls ≠ "java/lang/invoke/MethodHandle" ∧ yX8_meanLength.cls ≠ "java/lang/invoke/VarHandle" ∧ (parseMethodDescriptor yX8_meanLength.desc).map (fun d => d.parameters.length) = some 0 := by decide +kernel
theorem pdv_X7_digest : yX7_digest.cls = RX7 ∧ yX7_digest.cls ≠ "java/lang/invoke/MethodHandle" ∧ yX7_digest.cls ≠ "java/lang/invoke/VarHandle" ∧ (parseMethodDescriptor yX7_digest.desc).map (fun d => d.parameters.length) = some 0 := by decide +kernel
theorem pdv_X8_digest : yX8_digest.cls = RX8 ∧ yX8_digest.cls ≠ "java/lang/invoke/MethodHandle" ∧ yX8_digest.cls ≠ "java/lang/invoke/VarHandle" ∧ (parseMethodDescriptor yX8_digest.desc).map (fun d => d.parameters.length) = some 0 := by decide +kernel
set_option maxHeartbeats 4000000 in
set_option maxRecDepth 100000 in
theorem lc_0 {p : Program} {l : Launch} {e : Env} {s : State} {m : MethodId} {below : List Frame} {meth : Method} {c : Code} {b : Nat} {xs : Nat → Int32} {A : Nat → Prop} {H : Heap} {locs : List Loc} {ls : Array Slot} (hfl : l.stackTraces = false) (D : va_G) (cI cJ cZ cO : ClassId) (ad : Nat → Nat) (bf : Nat → Int32) (hb0 : ∀ k, bf k = 0) (F : Nat → Nat → Int32) (G : Nat → Nat → Int64) (ao : Nat) (g : Nat → Int64) (am : Nat → Nat) (qo : Nat) (F2 : Nat → Nat → Int32) (G2 : Nat → Nat → Int64) (C0 : lw_At p s m meth c b 4 xs) (hN : NW s) (hST : ST A s) (hSR : SR s) (hK : va_K D vwCl (TO cI cJ cZ cO) s) (hA : ∀ q, s.heap.size ≤ q → A q) (hAl : ∀ q, A q → s.heap.size ≤ q) (hbA : ¬ A b) (hP : va_P D vwCl (XW ad cI cJ 0 bf F G ++ MW (ao, .inl (cJ, 1, .inr (.inl g))) am cI cJ cZ cO 0 0 0 0 0 qo F2 G2) H) (hD : va_D A (XW ad cI cJ 0 bf F G ++ MW (ao, .inl (cJ, 1, .inr (.inl g))) am cI cJ cZ cO 0 0 0 0 0 qo F2 G2)) (hS : va_S A s.heap H locs) (hl : lv_has ls 9 [(0, .ref b), (1, .ref (ad 0)), (2, .ref (am 1)), (3, .ref ao), (4, .int 0)]) : W p l e room_1 s m #[Value.ref b] below meth c H locs 67 9542 (lw_Z below #[Value.ref b] s) (F0 m 232 ls []) := by
  obtain ⟨hx, hb, hr, hml, hown, hts, hX, hbl, hlocks, hgv⟩ := id C0
  have hg : ∀ w ∈ GW, w.before #[Value.ref b] s = true := fun w hw => hts w (gw_tbl hw)
  refine lv_aload_n hx hb dL_law_232 rfl (lv_at hl 1 rfl) ?_
  refine lv_aload_n hx hb dL_law_233 rfl (lv_at hl 0 rfl) ?_
  refine lv_iload hx hb dL_law_234 (lv_at hl 4 rfl) ?_
  refine lv_iconst (v := 1) hx hb dL_law_236 (by decide) ?_
  refine lv_iadd hx hb dL_law_237 ?_
  refine lv_topi (fun v_1 ev_1 => ?_)
  obtain rfl : v_1 = (1 : Int32) := ev_1.trans (by decide)
  refine va_sld hx hb hX hbl hbA hS (i := 1) (by unfold vp_in; decide) dL_law_238 ?_
  refine lv_aload_n hx hb dL_law_239 rfl (lv_at hl 0 rfl) ?_
  refine lv_iload hx hb dL_law_240 (lv_at hl 4 rfl) ?_
  refine lv_iconst (v := 2) hx hb dL_law_242 (by decide) ?_
  refine lv_iadd hx hb dL_law_243 ?_
  refine lv_topi (fun v_2 ev_2 => ?_)
  obtain rfl : v_2 = (2 : Int32) := ev_2.trans (by decide)
  refine va_sld hx hb hX hbl hbA hS (i := 2) (by unfold vp_in; decide) dL_law_244 ?_
  refine lv_aload_n hx hb dL_law_245 rfl (lv_at hl 0 rfl) ?_
  refine lv_iload hx hb dL_law_246 (lv_at hl 4 rfl) ?_
  refine lv_iconst (v := 3) hx hb dL_law_248 (by decide) ?_
  refine lv_iadd hx hb dL_law_249 ?_
  refine lv_topi (fun v_3 ev_3 => ?_)
  obtain rfl : v_3 = (3 : Int32) := ev_3.trans (by decide)
  refine va_sld hx hb hX hbl hbA hS (i := 3) (by unfold vp_in; decide) dL_law_250 ?_
  refine lv_aload_n hx hb dL_law_251 rfl (lv_at hl 3 rfl) ?_
  refine kI (rSW hx hb hml hown hg hN hK hP hD hST hSR hS hA (h_insert l hfl D cI cJ cZ cO ad bf F G ao g am qo F2 G2 (xs (1 : Int32).toNatClampNeg) (xs (2 : Int32).toNatClampNeg) (xs (3 : Int32).toNatClampNeg)) mw_662 mw_663 mw_664 mw_665 pd_L_insert ⟨Nat.le_of_ble_eq_true rfl, Nat.le_of_ble_eq_true rfl⟩ rfl hl.1 rfl (Nat.le_of_ble_eq_true rfl) dL_law_252 ⟨Nat.le_of_ble_eq_true rfl, Nat.le_of_ble_eq_true rfl⟩) hD hS hA (fun r_4 u_4 H locs hp hP hD hS => ?_)
  obtain ⟨g9, hh, rfl⟩ := hp
  refine lv_istore (lv' := [(5, .int r_4), (0, .ref b), (1, .ref (ad 0)), (2, .ref (am 1)), (3, .ref ao), (4, .int 0)]) hx hb dL_law_255 hl (by decide) rfl (fun ls hl => ?_)
  refine lv_aload_n hx hb dL_law_257 rfl (lv_at hl 3 rfl) ?_
  refine lv_aload_n hx hb dL_law_258 rfl (lv_at hl 1 rfl) ?_
  refine lv_iload hx hb dL_law_259 (lv_at hl 5 rfl) ?_
  refine lv_iconst (v := 1) hx hb dL_law_261 (by decide) ?_
  refine lv_iadd hx hb dL_law_262 ?_
  refine lv_topi (fun v_5 ev_5 => ?_)
  obtain rfl : v_5 = (1 : Int32) := ev_5.trans (by decide)
  refine va_sld hx hb hX hbl hbA hS (i := 1) (by unfold vp_in; decide) dL_law_263 ?_
  refine lv_aload_n hx hb dL_law_264 rfl (lv_at hl 1 rfl) ?_
  refine lv_iload hx hb dL_law_265 (lv_at hl 5 rfl) ?_
  refine lv_iconst (v := 2) hx hb dL_law_267 (by decide) ?_
  refine lv_iadd hx hb dL_law_268 ?_
  refine lv_topi (fun v_6 ev_6 => ?_)
  obtain rfl : v_6 = (2 : Int32) := ev_6.trans (by decide)
  refine va_sld hx hb hX hbl hbA hS (i := 2) (by unfold vp_in; decide) dL_law_269 ?_
  refine lv_aload_n hx hb dL_law_270 rfl (lv_at hl 1 rfl) ?_
  refine lv_iload hx hb dL_law_271 (lv_at hl 5 rfl) ?_
  refine lv_iconst (v := 3) hx hb dL_law_273 (by decide) ?_
  refine lv_iadd hx hb dL_law_274 ?_
  refine lv_topi (fun v_7 ev_7 => ?_)
  obtain rfl : v_7 = (3 : Int32) := ev_7.trans (by decide)
  refine va_sld hx hb hX hbl hbA hS (i := 3) (by unfold vp_in; decide) dL_law_275 ?_
  refine kI (rV (q0 := 1) (ci := 8) hx hb hml hown hg hN hK hP hD (q_insert l D cI cJ cZ cO (ao, .inl (cJ, 1, .inr (.inl g9))) am qo F2 G2 (xs (1 : Int32).toNatClampNeg) (xs (2 : Int32).toNatClampNeg) (xs (3 : Int32).toNatClampNeg)) mw_666 mw_667 mw_668 mw_669 mw_348 pdv_X8_insert ⟨Nat.le_of_ble_eq_true rfl, Nat.le_of_ble_eq_true rfl⟩ rfl rfl rfl hl.1 rfl (Nat.le_of_ble_eq_true rfl) dL_law_276 ⟨Nat.le_of_ble_eq_true rfl, Nat.le_of_ble_eq_true rfl⟩) hD hS hA (fun r_8 u_8 H locs hp hP hD hS => ?_)
  obtain ⟨th9, hm, mn9, ld9, sw9, sm9, qo9, F9m, G9m, rfl⟩ := hp
  rcases hh with ⟨ok, rfl, hg0⟩ | ⟨nok, rfl⟩
  · obtain ⟨hr2, ht2⟩ : r_8 = 1 ∧ th9 = 0 := hm.elim (fun h9 => h9.2) (fun h9 => False.elim (h9.1 ok))
    subst hr2; subst ht2
    have hl : lv_has ls 9 [(5, .int 0), (0, .ref b), (1, .ref (ad 0)), (2, .ref (am 1)), (3, .ref ao), (4, .int 0)] := hl
    refine lv_istore (lv' := [(6, .int 1), (5, .int 0), (0, .ref b), (1, .ref (ad 0)), (2, .ref (am 1)), (3, .ref ao), (4, .int 0)]) hx hb dL_law_279 hl (by decide) rfl (fun ls hl => ?_)
    refine lv_aload_n hx hb dL_law_281 rfl (lv_at hl 4 rfl) ?_
    refine kI (rV (q0 := 1) (ci := 8) hx hb hml hown hg hN hK hP hD (m_thrown l D cI cJ cZ cO (ao, .inl (cJ, 1, .inr (.inl g9))) am qo9 F9m G9m 0 mn9 ld9 sw9 sm9) mw_670 mw_671 mw_672 mw_673 mw_348 pdv_X8_thrown ⟨Nat.le_of_ble_eq_true rfl, Nat.le_of_ble_eq_true rfl⟩ rfl rfl rfl hl.1 rfl (Nat.le_of_ble_eq_true rfl) dL_law_282 ⟨Nat.le_of_ble_eq_true rfl, Nat.le_of_ble_eq_true rfl⟩) hD hS hA (fun r_9 u_9 H locs hp hP hD hS => ?_)
    obtain ⟨rfl, rfl⟩ := hp
    refine lv_iload hx hb dL_law_285 (lv_at hl 1 rfl) ?_
    refine lv_icmp_eq (tgt := 292) hx hb dL_law_287 (by decide) (fun c_287 => ?_) (fun c_287 => absurd (by decide) c_287)
    refine lv_iload hx hb dL_law_292 (lv_at hl 1 rfl) ?_
    refine lv_if_ne (tgt := 309) hx hb dL_law_294 (by decide) (fun c_294 => absurd (by decide) c_294) (fun c_294 => ?_)
    refine lv_aload_n hx hb dL_law_297 rfl (lv_at hl 5 rfl) ?_
    refine lv_iconst (v := 0) hx hb dL_law_298 (by decide) ?_
    refine va_lald hx hb hK hP 0 1 rfl rfl (by unfold vp_in; decide) dL_law_299 ?_
    rw [show g9 (0 : Int32).toNatClampNeg = 1 from hg0]
    refine lv_iload hx hb dL_law_300 (lv_at hl 0 rfl) ?_
    refine lv_i2l (v := 1) hx hb dL_law_302 (by decide) ?_
    refine W.lcmp hx hb dL_law_303 ?_
    refine lv_topi (fun v_10 ev_10 => ?_)
    obtain rfl : v_10 = (0 : Int32) := ev_10.trans (by decide)
    refine lv_if_eq (tgt := 309) hx hb dL_law_304 (by decide) (fun c_304 => ?_) (fun c_304 => absurd (by decide) c_304)
    refine lv_goto (tgt := 2279) hx hb dL_law_309 (by decide) ?_
    exact lc_end C0 hAl hbA hS (lv_sub hl [2, 6] rfl) (Nat.le_of_ble_eq_true rfl) (Nat.le_of_ble_eq_true rfl)
  · obtain ht2 : th9 = 1 := hm.elim (fun h9 => False.elim (nok h9.1)) (fun h9 => h9.2)
    subst ht2
    have hl : lv_has ls 9 [(5, .int 1), (0, .ref b), (1, .ref (ad 0)), (2, .ref (am 1)), (3, .ref ao), (4, .int 0)] := hl
    refine lv_istore (lv' := [(6, .int r_8), (5, .int 1), (0, .ref b), (1, .ref (ad 0)), (2, .ref (am 1)), (3, .ref ao), (4, .int 0)]) hx hb dL_law_279 hl (by decide) rfl (fun ls hl => ?_)
    refine lv_aload_n hx hb dL_law_281 rfl (lv_at hl 4 rfl) ?_
    refine kI (rV (q0 := 1) (ci := 8) hx hb hml hown hg hN hK hP hD (m_thrown l D cI cJ cZ cO (ao, .inl (cJ, 1, .inr (.inl g9))) am qo9 F9m G9m 1 mn9 ld9 sw9 sm9) mw_670 mw_671 mw_672 mw_673 mw_348 pdv_X8_thrown ⟨Nat.le_of_ble_eq_true rfl, Nat.le_of_ble_eq_true rfl⟩ rfl rfl rfl hl.1 rfl (Nat.le_of_ble_eq_true rfl) dL_law_282 ⟨Nat.le_of_ble_eq_true rfl, Nat.le_of_ble_eq_true rfl⟩) hD hS hA (fun r_11 u_11 H locs hp hP hD hS => ?_)
    obtain ⟨rfl, rfl⟩ := hp
    refine lv_iload hx hb dL_law_285 (lv_at hl 1 rfl) ?_
    refine lv_icmp_eq (tgt := 292) hx hb dL_law_287 (by decide) (fun c_287 => ?_) (fun c_287 => absurd (by decide) c_287)
    refine lv_iload hx hb dL_law_292 (lv_at hl 1 rfl) ?_
    refine lv_if_ne (tgt := 309) hx hb dL_law_294 (by decide) (fun c_294 => ?_) (fun c_294 => absurd c_294 (by decide))
    refine lv_goto (tgt := 2279) hx hb dL_law_309 (by decide) ?_
    exact lc_end C0 hAl hbA hS (lv_sub hl [2, 6] rfl) (Nat.le_of_ble_eq_true rfl) (Nat.le_of_ble_eq_true rfl)
set_option maxHeartbeats 4000000 in
set_option maxRecDepth 100000 in
theorem lc_1 {p : Program} {l : Launch} {e : Env} {s : State} {m : MethodId} {below : List Frame} {meth : Method} {c : Code} {b : Nat} {xs : Nat → Int32} {A : Nat → Prop} {H : Heap} {locs : List Loc} {ls : Array Slot} (hfl : l.stackTraces = false) (D : va_G) (cI cJ cZ cO : ClassId) (ad : Nat → Nat) (bf : Nat → Int32) (hb0 : ∀ k, bf k = 0) (F : Nat → Nat → Int32) (G : Nat → Nat → Int64) (ao : Nat) (g : Nat → Int64) (am : Nat → Nat) (qo : Nat) (F2 : Nat → Nat → Int32) (G2 : Nat → Nat → Int64) (C0 : lw_At p s m meth c b 4 xs) (hN : NW s) (hST : ST A s) (hSR : SR s) (hK : va_K D vwCl (TO cI cJ cZ cO) s) (hA : ∀ q, s.heap.size ≤ q → A q) (hAl : ∀ q, A q → s.heap.size ≤ q) (hbA : ¬ A b) (hP : va_P D vwCl (XW ad cI cJ 0 bf F G ++ MW (ao, .inl (cJ, 1, .inr (.inl g))) am cI cJ cZ cO 0 0 0 0 0 qo F2 G2) H) (hD : va_D A (XW ad cI cJ 0 bf F G ++ MW (ao, .inl (cJ, 1, .inr (.inl g))) am cI cJ cZ cO 0 0 0 0 0 qo F2 G2)) (hS : va_S A s.heap H locs) (hl : lv_has ls 9 [(0, .ref b), (1, .ref (ad 0)), (2, .ref (am 1)), (3, .ref ao), (4, .int 0)]) : W p l e room_1 s m #[Value.ref b] below meth c H locs 67 9542 (lw_Z below #[Value.ref b] s) (F0 m 312 ls []) := by
  obtain ⟨hx, hb, hr, hml, hown, hts, hX, hbl, hlocks, hgv⟩ := id C0
  have hg : ∀ w ∈ GW, w.before #[Value.ref b] s = true := fun w hw => hts w (gw_tbl hw)
  refine lv_aload_n hx hb dL_law_312 rfl (lv_at hl 1 rfl) ?_
  refine lv_aload_n hx hb dL_law_313 rfl (lv_at hl 0 rfl) ?_
  refine lv_iload hx hb dL_law_314 (lv_at hl 4 rfl) ?_
  refine lv_iconst (v := 1) hx hb dL_law_316 (by decide) ?_
  refine lv_iadd hx hb dL_law_317 ?_
  refine lv_topi (fun v_1 ev_1 => ?_)
  obtain rfl : v_1 = (1 : Int32) := ev_1.trans (by decide)
  refine va_sld hx hb hX hbl hbA hS (i := 1) (by unfold vp_in; decide) dL_law_318 ?_
  refine lv_aload_n hx hb dL_law_319 rfl (lv_at hl 3 rfl) ?_
  refine kI (rSW hx hb hml hown hg hN hK hP hD hST hSR hS hA (h_remove l hfl D cI cJ cZ cO ad bf F G ao g am qo F2 G2 (xs (1 : Int32).toNatClampNeg)) mw_674 mw_675 mw_676 mw_665 pd_L_remove ⟨Nat.le_of_ble_eq_true rfl, Nat.le_of_ble_eq_true rfl⟩ rfl hl.1 rfl (Nat.le_of_ble_eq_true rfl) dL_law_320 ⟨Nat.le_of_ble_eq_true rfl, Nat.le_of_ble_eq_true rfl⟩) hD hS hA (fun r_2 u_2 H locs hp hP hD hS => ?_)
  obtain ⟨rfl, rfl⟩ := hp
  refine lv_istore (lv' := [(5, .int 1), (0, .ref b), (1, .ref (ad 0)), (2, .ref (am 1)), (3, .ref ao), (4, .int 0)]) hx hb dL_law_323 hl (by decide) rfl (fun ls hl => ?_)
  refine lv_aload_n hx hb dL_law_325 rfl (lv_at hl 3 rfl) ?_
  refine lv_aload_n hx hb dL_law_326 rfl (lv_at hl 1 rfl) ?_
  refine lv_iload hx hb dL_law_327 (lv_at hl 5 rfl) ?_
  refine lv_iconst (v := 1) hx hb dL_law_329 (by decide) ?_
  refine lv_iadd hx hb dL_law_330 ?_
  refine lv_topi (fun v_3 ev_3 => ?_)
  obtain rfl : v_3 = (1 : Int32) := ev_3.trans (by decide)
  refine va_sld hx hb hX hbl hbA hS (i := 1) (by unfold vp_in; decide) dL_law_331 ?_
  refine kI (rV (q0 := 1) (ci := 8) hx hb hml hown hg hN hK hP hD (q_remove l D cI cJ cZ cO (ao, .inl (cJ, 1, .inr (.inl g))) am qo F2 G2 (xs (1 : Int32).toNatClampNeg)) mw_677 mw_678 mw_679 mw_680 mw_348 pdv_X8_remove ⟨Nat.le_of_ble_eq_true rfl, Nat.le_of_ble_eq_true rfl⟩ rfl rfl rfl hl.1 rfl (Nat.le_of_ble_eq_true rfl) dL_law_332 ⟨Nat.le_of_ble_eq_true rfl, Nat.le_of_ble_eq_true rfl⟩) hD hS hA (fun r_4 u_4 H locs hp hP hD hS => ?_)
  obtain ⟨rfl, mn9, ld9, sw9, sm9, qo9, F9m, G9m, rfl⟩ := hp
  refine lv_istore (lv' := [(6, .int 0), (5, .int 1), (0, .ref b), (1, .ref (ad 0)), (2, .ref (am 1)), (3, .ref ao), (4, .int 0)]) hx hb dL_law_335 hl (by decide) rfl (fun ls hl => ?_)
  refine lv_aload_n hx hb dL_law_337 rfl (lv_at hl 4 rfl) ?_
  refine kI (rV (q0 := 1) (ci := 8) hx hb hml hown hg hN hK hP hD (m_thrown l D cI cJ cZ cO (ao, .inl (cJ, 1, .inr (.inl g))) am qo9 F9m G9m 1 mn9 ld9 sw9 sm9) mw_670 mw_671 mw_672 mw_673 mw_348 pdv_X8_thrown ⟨Nat.le_of_ble_eq_true rfl, Nat.le_of_ble_eq_true rfl⟩ rfl rfl rfl hl.1 rfl (Nat.le_of_ble_eq_true rfl) dL_law_338 ⟨Nat.le_of_ble_eq_true rfl, Nat.le_of_ble_eq_true rfl⟩) hD hS hA (fun r_5 u_5 H locs hp hP hD hS => ?_)
  obtain ⟨rfl, rfl⟩ := hp
  refine lv_iload hx hb dL_law_341 (lv_at hl 1 rfl) ?_
  refine lv_icmp_eq (tgt := 348) hx hb dL_law_343 (by decide) (fun c_343 => ?_) (fun c_343 => absurd (by decide) c_343)
  refine lv_iload hx hb dL_law_348 (lv_at hl 1 rfl) ?_
  refine lv_if_ne (tgt := 365) hx hb dL_law_350 (by decide) (fun c_350 => ?_) (fun c_350 => absurd c_350 (by decide))
  refine lv_goto (tgt := 2279) hx hb dL_law_365 (by decide) ?_
  exact lc_end C0 hAl hbA hS (lv_sub hl [2, 6] rfl) (Nat.le_of_ble_eq_true rfl) (Nat.le_of_ble_eq_true rfl)
set_option maxHeartbeats 4000000 in
set_option maxRecDepth 100000 in
theorem lc_2 {p : Program} {l : Launch} {e : Env} {s : State} {m : MethodId} {below : List Frame} {meth : Method} {c : Code} {b : Nat} {xs : Nat → Int32} {A : Nat → Prop} {H : Heap} {locs : List Loc} {ls : Array Slot} (hfl : l.stackTraces = false) (D : va_G) (cI cJ cZ cO : ClassId) (ad : Nat → Nat) (bf : Nat → Int32) (hb0 : ∀ k, bf k = 0) (F : Nat → Nat → Int32) (G : Nat → Nat → Int64) (ao : Nat) (g : Nat → Int64) (am : Nat → Nat) (qo : Nat) (F2 : Nat → Nat → Int32) (G2 : Nat → Nat → Int64) (C0 : lw_At p s m meth c b 4 xs) (hN : NW s) (hST : ST A s) (hSR : SR s) (hK : va_K D vwCl (TO cI cJ cZ cO) s) (hA : ∀ q, s.heap.size ≤ q → A q) (hAl : ∀ q, A q → s.heap.size ≤ q) (hbA : ¬ A b) (hP : va_P D vwCl (XW ad cI cJ 0 bf F G ++ MW (ao, .inl (cJ, 1, .inr (.inl g))) am cI cJ cZ cO 0 0 0 0 0 qo F2 G2) H) (hD : va_D A (XW ad cI cJ 0 bf F G ++ MW (ao, .inl (cJ, 1, .inr (.inl g))) am cI cJ cZ cO 0 0 0 0 0 qo F2 G2)) (hS : va_S A s.heap H locs) (hl : lv_has ls 9 [(0, .ref b), (1, .ref (ad 0)), (2, .ref (am 1)), (3, .ref ao), (4, .int 0)]) : W p l e room_1 s m #[Value.ref b] below meth c H locs 67 9542 (lw_Z below #[Value.ref b] s) (F0 m 368 ls []) := by
  obtain ⟨hx, hb, hr, hml, hown, hts, hX, hbl, hlocks, hgv⟩ := id C0
  have hg : ∀ w ∈ GW, w.before #[Value.ref b] s = true := fun w hw => hts w (gw_tbl hw)
  refine lv_aload_n hx hb dL_law_368 rfl (lv_at hl 1 rfl) ?_
  refine lv_aload_n hx hb dL_law_369 rfl (lv_at hl 0 rfl) ?_
  refine lv_iload hx hb dL_law_370 (lv_at hl 4 rfl) ?_
  refine lv_iconst (v := 1) hx hb dL_law_372 (by decide) ?_
  refine lv_iadd hx hb dL_law_373 ?_
  refine lv_topi (fun v_1 ev_1 => ?_)
  obtain rfl : v_1 = (1 : Int32) := ev_1.trans (by decide)
  refine va_sld hx hb hX hbl hbA hS (i := 1) (by unfold vp_in; decide) dL_law_374 ?_
  refine lv_aload_n hx hb dL_law_375 rfl (lv_at hl 0 rfl) ?_
  refine lv_iload hx hb dL_law_376 (lv_at hl 4 rfl) ?_
  refine lv_iconst (v := 2) hx hb dL_law_378 (by decide) ?_
  refine lv_iadd hx hb dL_law_379 ?_
  refine lv_topi (fun v_2 ev_2 => ?_)
  obtain rfl : v_2 = (2 : Int32) := ev_2.trans (by decide)
  refine va_sld hx hb hX hbl hbA hS (i := 2) (by unfold vp_in; decide) dL_law_380 ?_
  refine lv_aload_n hx hb dL_law_381 rfl (lv_at hl 3 rfl) ?_
  refine kI (rSW hx hb hml hown hg hN hK hP hD hST hSR hS hA (h_setTarget l hfl D cI cJ cZ cO ad bf F G ao g am qo F2 G2 (xs (1 : Int32).toNatClampNeg) (xs (2 : Int32).toNatClampNeg)) mw_681 mw_682 mw_683 mw_665 pd_L_setTarget ⟨Nat.le_of_ble_eq_true rfl, Nat.le_of_ble_eq_true rfl⟩ rfl hl.1 rfl (Nat.le_of_ble_eq_true rfl) dL_law_382 ⟨Nat.le_of_ble_eq_true rfl, Nat.le_of_ble_eq_true rfl⟩) hD hS hA (fun r_3 u_3 H locs hp hP hD hS => ?_)
  obtain ⟨rfl, rfl⟩ := hp
  refine lv_istore (lv' := [(5, .int 1), (0, .ref b), (1, .ref (ad 0)), (2, .ref (am 1)), (3, .ref ao), (4, .int 0)]) hx hb dL_law_385 hl (by decide) rfl (fun ls hl => ?_)
  refine lv_aload_n hx hb dL_law_387 rfl (lv_at hl 3 rfl) ?_
  refine lv_aload_n hx hb dL_law_388 rfl (lv_at hl 1 rfl) ?_
  refine lv_iload hx hb dL_law_389 (lv_at hl 5 rfl) ?_
  refine lv_iconst (v := 1) hx hb dL_law_391 (by decide) ?_
  refine lv_iadd hx hb dL_law_392 ?_
  refine lv_topi (fun v_4 ev_4 => ?_)
  obtain rfl : v_4 = (1 : Int32) := ev_4.trans (by decide)
  refine va_sld hx hb hX hbl hbA hS (i := 1) (by unfold vp_in; decide) dL_law_393 ?_
  refine lv_aload_n hx hb dL_law_394 rfl (lv_at hl 1 rfl) ?_
  refine lv_iload hx hb dL_law_395 (lv_at hl 5 rfl) ?_
  refine lv_iconst (v := 2) hx hb dL_law_397 (by decide) ?_
  refine lv_iadd hx hb dL_law_398 ?_
  refine lv_topi (fun v_5 ev_5 => ?_)
  obtain rfl : v_5 = (2 : Int32) := ev_5.trans (by decide)
  refine va_sld hx hb hX hbl hbA hS (i := 2) (by unfold vp_in; decide) dL_law_399 ?_
  refine kI (rV (q0 := 1) (ci := 8) hx hb hml hown hg hN hK hP hD (q_setTarget l D cI cJ cZ cO (ao, .inl (cJ, 1, .inr (.inl g))) am qo F2 G2 (xs (1 : Int32).toNatClampNeg) (xs (2 : Int32).toNatClampNeg)) mw_684 mw_685 mw_686 mw_687 mw_348 pdv_X8_setTarget ⟨Nat.le_of_ble_eq_true rfl, Nat.le_of_ble_eq_true rfl⟩ rfl rfl rfl hl.1 rfl (Nat.le_of_ble_eq_true rfl) dL_law_400 ⟨Nat.le_of_ble_eq_true rfl, Nat.le_of_ble_eq_true rfl⟩) hD hS hA (fun r_6 u_6 H locs hp hP hD hS => ?_)
  obtain ⟨rfl, mn9, ld9, sw9, sm9, qo9, F9m, G9m, rfl⟩ := hp
  refine lv_istore (lv' := [(6, .int 0), (5, .int 1), (0, .ref b), (1, .ref (ad 0)), (2, .ref (am 1)), (3, .ref ao), (4, .int 0)]) hx hb dL_law_403 hl (by decide) rfl (fun ls hl => ?_)
  refine lv_aload_n hx hb dL_law_405 rfl (lv_at hl 4 rfl) ?_
  refine kI (rV (q0 := 1) (ci := 8) hx hb hml hown hg hN hK hP hD (m_thrown l D cI cJ cZ cO (ao, .inl (cJ, 1, .inr (.inl g))) am qo9 F9m G9m 1 mn9 ld9 sw9 sm9) mw_670 mw_671 mw_672 mw_673 mw_348 pdv_X8_thrown ⟨Nat.le_of_ble_eq_true rfl, Nat.le_of_ble_eq_true rfl⟩ rfl rfl rfl hl.1 rfl (Nat.le_of_ble_eq_true rfl) dL_law_406 ⟨Nat.le_of_ble_eq_true rfl, Nat.le_of_ble_eq_true rfl⟩) hD hS hA (fun r_7 u_7 H locs hp hP hD hS => ?_)
  obtain ⟨rfl, rfl⟩ := hp
  refine lv_iload hx hb dL_law_409 (lv_at hl 1 rfl) ?_
  refine lv_icmp_eq (tgt := 416) hx hb dL_law_411 (by decide) (fun c_411 => ?_) (fun c_411 => absurd (by decide) c_411)
  refine lv_iload hx hb dL_law_416 (lv_at hl 1 rfl) ?_
  refine lv_if_ne (tgt := 433) hx hb dL_law_418 (by decide) (fun c_418 => ?_) (fun c_418 => absurd c_418 (by decide))
  refine lv_goto (tgt := 2279) hx hb dL_law_433 (by decide) ?_
  exact lc_end C0 hAl hbA hS (lv_sub hl [2, 6] rfl) (Nat.le_of_ble_eq_true rfl) (Nat.le_of_ble_eq_true rfl)
set_option maxHeartbeats 4000000 in
set_option maxRecDepth 100000 in
theorem lc_3 {p : Program} {l : Launch} {e : Env} {s : State} {m : MethodId} {below : List Frame} {meth : Method} {c : Code} {b : Nat} {xs : Nat → Int32} {A : Nat → Prop} {H : Heap} {locs : List Loc} {ls : Array Slot} (hfl : l.stackTraces = false) (D : va_G) (cI cJ cZ cO : ClassId) (ad : Nat → Nat) (bf : Nat → Int32) (hb0 : ∀ k, bf k = 0) (F : Nat → Nat → Int32) (G : Nat → Nat → Int64) (ao : Nat) (g : Nat → Int64) (am : Nat → Nat) (qo : Nat) (F2 : Nat → Nat → Int32) (G2 : Nat → Nat → Int64) (C0 : lw_At p s m meth c b 4 xs) (hN : NW s) (hST : ST A s) (hSR : SR s) (hK : va_K D vwCl (TO cI cJ cZ cO) s) (hA : ∀ q, s.heap.size ≤ q → A q) (hAl : ∀ q, A q → s.heap.size ≤ q) (hbA : ¬ A b) (hP : va_P D vwCl (XW ad cI cJ 0 bf F G ++ MW (ao, .inl (cJ, 1, .inr (.inl g))) am cI cJ cZ cO 0 0 0 0 0 qo F2 G2) H) (hD : va_D A (XW ad cI cJ 0 bf F G ++ MW (ao, .inl (cJ, 1, .inr (.inl g))) am cI cJ cZ cO 0 0 0 0 0 qo F2 G2)) (hS : va_S A s.heap H locs) (hl : lv_has ls 9 [(0, .ref b), (1, .ref (ad 0)), (2, .ref (am 1)), (3, .ref ao), (4, .int 0)]) : W p l e room_1 s m #[Value.ref b] below meth c H locs 67 9542 (lw_Z below #[Value.ref b] s) (F0 m 436 ls []) := by
  obtain ⟨hx, hb, hr, hml, hown, hts, hX, hbl, hlocks, hgv⟩ := id C0
  have hg : ∀ w ∈ GW, w.before #[Value.ref b] s = true := fun w hw => hts w (gw_tbl hw)
  refine lv_aload_n hx hb dL_law_436 rfl (lv_at hl 1 rfl) ?_
  refine lv_aload_n hx hb dL_law_437 rfl (lv_at hl 0 rfl) ?_
  refine lv_iload hx hb dL_law_438 (lv_at hl 4 rfl) ?_
  refine lv_iconst (v := 1) hx hb dL_law_440 (by decide) ?_
  refine lv_iadd hx hb dL_law_441 ?_
  refine lv_topi (fun v_1 ev_1 => ?_)
  obtain rfl : v_1 = (1 : Int32) := ev_1.trans (by decide)
  refine va_sld hx hb hX hbl hbA hS (i := 1) (by unfold vp_in; decide) dL_law_442 ?_
  refine lv_aload_n hx hb dL_law_443 rfl (lv_at hl 0 rfl) ?_
  refine lv_iload hx hb dL_law_444 (lv_at hl 4 rfl) ?_
  refine lv_iconst (v := 2) hx hb dL_law_446 (by decide) ?_
  refine lv_iadd hx hb dL_law_447 ?_
  refine lv_topi (fun v_2 ev_2 => ?_)
  obtain rfl : v_2 = (2 : Int32) := ev_2.trans (by decide)
  refine va_sld hx hb hX hbl hbA hS (i := 2) (by unfold vp_in; decide) dL_law_448 ?_
  refine lv_aload_n hx hb dL_law_449 rfl (lv_at hl 0 rfl) ?_
  refine lv_iload hx hb dL_law_450 (lv_at hl 4 rfl) ?_
  refine lv_iconst (v := 3) hx hb dL_law_452 (by decide) ?_
  refine lv_iadd hx hb dL_law_453 ?_
  refine lv_topi (fun v_3 ev_3 => ?_)
  obtain rfl : v_3 = (3 : Int32) := ev_3.trans (by decide)
  refine va_sld hx hb hX hbl hbA hS (i := 3) (by unfold vp_in; decide) dL_law_454 ?_
  refine lv_aload_n hx hb dL_law_455 rfl (lv_at hl 3 rfl) ?_
  refine kI (rSW hx hb hml hown hg hN hK hP hD hST hSR hS hA (h_setUse l hfl D cI cJ cZ cO ad bf F G ao g am qo F2 G2 (xs (1 : Int32).toNatClampNeg) (xs (2 : Int32).toNatClampNeg) (xs (3 : Int32).toNatClampNeg)) mw_688 mw_689 mw_690 mw_665 pd_L_setUse ⟨Nat.le_of_ble_eq_true rfl, Nat.le_of_ble_eq_true rfl⟩ rfl hl.1 rfl (Nat.le_of_ble_eq_true rfl) dL_law_456 ⟨Nat.le_of_ble_eq_true rfl, Nat.le_of_ble_eq_true rfl⟩) hD hS hA (fun r_4 u_4 H locs hp hP hD hS => ?_)
  obtain ⟨rfl, rfl⟩ := hp
  refine lv_istore (lv' := [(5, .int 1), (0, .ref b), (1, .ref (ad 0)), (2, .ref (am 1)), (3, .ref ao), (4, .int 0)]) hx hb dL_law_459 hl (by decide) rfl (fun ls hl => ?_)
  refine lv_aload_n hx hb dL_law_461 rfl (lv_at hl 3 rfl) ?_
  refine lv_aload_n hx hb dL_law_462 rfl (lv_at hl 1 rfl) ?_
  refine lv_iload hx hb dL_law_463 (lv_at hl 5 rfl) ?_
  refine lv_iconst (v := 1) hx hb dL_law_465 (by decide) ?_
  refine lv_iadd hx hb dL_law_466 ?_
  refine lv_topi (fun v_5 ev_5 => ?_)
  obtain rfl : v_5 = (1 : Int32) := ev_5.trans (by decide)
  refine va_sld hx hb hX hbl hbA hS (i := 1) (by unfold vp_in; decide) dL_law_467 ?_
  refine lv_aload_n hx hb dL_law_468 rfl (lv_at hl 1 rfl) ?_
  refine lv_iload hx hb dL_law_469 (lv_at hl 5 rfl) ?_
  refine lv_iconst (v := 2) hx hb dL_law_471 (by decide) ?_
  refine lv_iadd hx hb dL_law_472 ?_
  refine lv_topi (fun v_6 ev_6 => ?_)
  obtain rfl : v_6 = (2 : Int32) := ev_6.trans (by decide)
  refine va_sld hx hb hX hbl hbA hS (i := 2) (by unfold vp_in; decide) dL_law_473 ?_
  refine lv_aload_n hx hb dL_law_474 rfl (lv_at hl 1 rfl) ?_
  refine lv_iload hx hb dL_law_475 (lv_at hl 5 rfl) ?_
  refine lv_iconst (v := 3) hx hb dL_law_477 (by decide) ?_
  refine lv_iadd hx hb dL_law_478 ?_
  refine lv_topi (fun v_7 ev_7 => ?_)
  obtain rfl : v_7 = (3 : Int32) := ev_7.trans (by decide)
  refine va_sld hx hb hX hbl hbA hS (i := 3) (by unfold vp_in; decide) dL_law_479 ?_
  refine kI (rV (q0 := 1) (ci := 8) hx hb hml hown hg hN hK hP hD (q_setUse l D cI cJ cZ cO (ao, .inl (cJ, 1, .inr (.inl g))) am qo F2 G2 (xs (1 : Int32).toNatClampNeg) (xs (2 : Int32).toNatClampNeg) (xs (3 : Int32).toNatClampNeg)) mw_691 mw_692 mw_693 mw_694 mw_348 pdv_X8_setUse ⟨Nat.le_of_ble_eq_true rfl, Nat.le_of_ble_eq_true rfl⟩ rfl rfl rfl hl.1 rfl (Nat.le_of_ble_eq_true rfl) dL_law_480 ⟨Nat.le_of_ble_eq_true rfl, Nat.le_of_ble_eq_true rfl⟩) hD hS hA (fun r_8 u_8 H locs hp hP hD hS => ?_)
  obtain ⟨rfl, mn9, ld9, sw9, sm9, qo9, F9m, G9m, rfl⟩ := hp
  refine lv_istore (lv' := [(6, .int 0), (5, .int 1), (0, .ref b), (1, .ref (ad 0)), (2, .ref (am 1)), (3, .ref ao), (4, .int 0)]) hx hb dL_law_483 hl (by decide) rfl (fun ls hl => ?_)
  refine lv_aload_n hx hb dL_law_485 rfl (lv_at hl 4 rfl) ?_
  refine kI (rV (q0 := 1) (ci := 8) hx hb hml hown hg hN hK hP hD (m_thrown l D cI cJ cZ cO (ao, .inl (cJ, 1, .inr (.inl g))) am qo9 F9m G9m 1 mn9 ld9 sw9 sm9) mw_670 mw_671 mw_672 mw_673 mw_348 pdv_X8_thrown ⟨Nat.le_of_ble_eq_true rfl, Nat.le_of_ble_eq_true rfl⟩ rfl rfl rfl hl.1 rfl (Nat.le_of_ble_eq_true rfl) dL_law_486 ⟨Nat.le_of_ble_eq_true rfl, Nat.le_of_ble_eq_true rfl⟩) hD hS hA (fun r_9 u_9 H locs hp hP hD hS => ?_)
  obtain ⟨rfl, rfl⟩ := hp
  refine lv_iload hx hb dL_law_489 (lv_at hl 1 rfl) ?_
  refine lv_icmp_eq (tgt := 496) hx hb dL_law_491 (by decide) (fun c_491 => ?_) (fun c_491 => absurd (by decide) c_491)
  refine lv_iload hx hb dL_law_496 (lv_at hl 1 rfl) ?_
  refine lv_if_ne (tgt := 513) hx hb dL_law_498 (by decide) (fun c_498 => ?_) (fun c_498 => absurd c_498 (by decide))
  refine lv_goto (tgt := 2279) hx hb dL_law_513 (by decide) ?_
  exact lc_end C0 hAl hbA hS (lv_sub hl [2, 6] rfl) (Nat.le_of_ble_eq_true rfl) (Nat.le_of_ble_eq_true rfl)
set_option maxHeartbeats 4000000 in
set_option maxRecDepth 100000 in
theorem lc_4 {p : Program} {l : Launch} {e : Env} {s : State} {m : MethodId} {below : List Frame} {meth : Method} {c : Code} {b : Nat} {xs : Nat → Int32} {A : Nat → Prop} {H : Heap} {locs : List Loc} {ls : Array Slot} (hfl : l.stackTraces = false) (D : va_G) (cI cJ cZ cO : ClassId) (ad : Nat → Nat) (bf : Nat → Int32) (hb0 : ∀ k, bf k = 0) (F : Nat → Nat → Int32) (G : Nat → Nat → Int64) (ao : Nat) (g : Nat → Int64) (am : Nat → Nat) (qo : Nat) (F2 : Nat → Nat → Int32) (G2 : Nat → Nat → Int64) (C0 : lw_At p s m meth c b 4 xs) (hN : NW s) (hST : ST A s) (hSR : SR s) (hK : va_K D vwCl (TO cI cJ cZ cO) s) (hA : ∀ q, s.heap.size ≤ q → A q) (hAl : ∀ q, A q → s.heap.size ≤ q) (hbA : ¬ A b) (hP : va_P D vwCl (XW ad cI cJ 0 bf F G ++ MW (ao, .inl (cJ, 1, .inr (.inl g))) am cI cJ cZ cO 0 0 0 0 0 qo F2 G2) H) (hD : va_D A (XW ad cI cJ 0 bf F G ++ MW (ao, .inl (cJ, 1, .inr (.inl g))) am cI cJ cZ cO 0 0 0 0 0 qo F2 G2)) (hS : va_S A s.heap H locs) (hl : lv_has ls 9 [(0, .ref b), (1, .ref (ad 0)), (2, .ref (am 1)), (3, .ref ao), (4, .int 0)]) : W p l e room_1 s m #[Value.ref b] below meth c H locs 67 9542 (lw_Z below #[Value.ref b] s) (F0 m 516 ls []) := by
  obtain ⟨hx, hb, hr, hml, hown, hts, hX, hbl, hlocks, hgv⟩ := id C0
  have hg : ∀ w ∈ GW, w.before #[Value.ref b] s = true := fun w hw => hts w (gw_tbl hw)
  refine lv_aload_n hx hb dL_law_516 rfl (lv_at hl 1 rfl) ?_
  refine kI (rV (q0 := 0) (ci := 7) hx hb hml hown hg hN (hK.sub (tys' := TY cI cJ cZ) [0, 1, 2] rfl) hP hD (p_instructions l D cI cJ cZ ad bf F G (MW (ao, .inl (cJ, 1, .inr (.inl g))) am cI cJ cZ cO 0 0 0 0 0 qo F2 G2) hb0) mw_695 mw_696 mw_697 mw_698 mw_110 pdv_X7_instructions ⟨Nat.le_of_ble_eq_true rfl, Nat.le_of_ble_eq_true rfl⟩ rfl rfl rfl hl.1 rfl (Nat.le_of_ble_eq_true rfl) dL_law_517 ⟨Nat.le_of_ble_eq_true rfl, Nat.le_of_ble_eq_true rfl⟩) hD hS hA (fun r_1 u_1 H locs hp hP hD hS => ?_)
  obtain ⟨rfl, n9, b9, F9, G9, rfl⟩ := hp
  have hP : va_P D vwCl (MW (ao, .inl (cJ, 1, .inr (.inl g))) am cI cJ cZ cO 0 0 0 0 0 qo F2 G2) H := appRP hP
  have hD : va_D A (MW (ao, .inl (cJ, 1, .inr (.inl g))) am cI cJ cZ cO 0 0 0 0 0 qo F2 G2) := appRD hD
  refine lv_aload_n hx hb dL_law_520 rfl (lv_at hl 2 rfl) ?_
  refine kI (rV (q0 := 1) (ci := 8) hx hb hml hown hg hN hK hP hD (q_instructions l D cI cJ cZ cO (ao, .inl (cJ, 1, .inr (.inl g))) am qo F2 G2 ) mw_699 mw_700 mw_701 mw_702 mw_348 pdv_X8_instructions ⟨Nat.le_of_ble_eq_true rfl, Nat.le_of_ble_eq_true rfl⟩ rfl rfl rfl hl.1 rfl (Nat.le_of_ble_eq_true rfl) dL_law_521 ⟨Nat.le_of_ble_eq_true rfl, Nat.le_of_ble_eq_true rfl⟩) hD hS hA (fun r_2 u_2 H locs hp hP hD hS => ?_)
  obtain ⟨rfl, mn9, ld9, sw9, sm9, qo9, F9m, G9m, rfl⟩ := hp
  refine lv_icmp_eq (tgt := 2279) hx hb dL_law_524 (by decide) (fun c_524 => ?_) (fun c_524 => absurd (by decide) c_524)
  exact lc_end C0 hAl hbA hS (lv_sub hl [0, 4] rfl) (Nat.le_of_ble_eq_true rfl) (Nat.le_of_ble_eq_true rfl)
set_option maxHeartbeats 4000000 in
set_option maxRecDepth 100000 in
theorem lc_5 {p : Program} {l : Launch} {e : Env} {s : State} {m : MethodId} {below : List Frame} {meth : Method} {c : Code} {b : Nat} {xs : Nat → Int32} {A : Nat → Prop} {H : Heap} {locs : List Loc} {ls : Array Slot} (hfl : l.stackTraces = false) (D : va_G) (cI cJ cZ cO : ClassId) (ad : Nat → Nat) (bf : Nat → Int32) (hb0 : ∀ k, bf k = 0) (F : Nat → Nat → Int32) (G : Nat → Nat → Int64) (ao : Nat) (g : Nat → Int64) (am : Nat → Nat) (qo : Nat) (F2 : Nat → Nat → Int32) (G2 : Nat → Nat → Int64) (C0 : lw_At p s m meth c b 4 xs) (hN : NW s) (hST : ST A s) (hSR : SR s) (hK : va_K D vwCl (TO cI cJ cZ cO) s) (hA : ∀ q, s.heap.size ≤ q → A q) (hAl : ∀ q, A q → s.heap.size ≤ q) (hbA : ¬ A b) (hP : va_P D vwCl (XW ad cI cJ 0 bf F G ++ MW (ao, .inl (cJ, 1, .inr (.inl g))) am cI cJ cZ cO 0 0 0 0 0 qo F2 G2) H) (hD : va_D A (XW ad cI cJ 0 bf F G ++ MW (ao, .inl (cJ, 1, .inr (.inl g))) am cI cJ cZ cO 0 0 0 0 0 qo F2 G2)) (hS : va_S A s.heap H locs) (hl : lv_has ls 9 [(0, .ref b), (1, .ref (ad 0)), (2, .ref (am 1)), (3, .ref ao), (4, .int 0)]) : W p l e room_1 s m #[Value.ref b] below meth c H locs 67 9542 (lw_Z below #[Value.ref b] s) (F0 m 529 ls []) := by
  obtain ⟨hx, hb, hr, hml, hown, hts, hX, hbl, hlocks, hgv⟩ := id C0
  have hg : ∀ w ∈ GW, w.before #[Value.ref b] s = true := fun w hw => hts w (gw_tbl hw)
  refine lv_aload_n hx hb dL_law_529 rfl (lv_at hl 1 rfl) ?_
  refine lv_aload_n hx hb dL_law_530 rfl (lv_at hl 0 rfl) ?_
  refine lv_iload hx hb dL_law_531 (lv_at hl 4 rfl) ?_
  refine lv_iconst (v := 1) hx hb dL_law_533 (by decide) ?_
  refine lv_iadd hx hb dL_law_534 ?_
  refine lv_topi (fun v_1 ev_1 => ?_)
  obtain rfl : v_1 = (1 : Int32) := ev_1.trans (by decide)
  refine va_sld hx hb hX hbl hbA hS (i := 1) (by unfold vp_in; decide) dL_law_535 ?_
  refine lv_aload_n hx hb dL_law_536 rfl (lv_at hl 3 rfl) ?_
  refine kI (rSW hx hb hml hown hg hN hK hP hD hST hSR hS hA (h_kindOf l hfl D cI cJ cZ cO ad bf F G ao g am qo F2 G2 (xs (1 : Int32).toNatClampNeg)) mw_703 mw_704 mw_705 mw_665 pd_L_kindOf ⟨Nat.le_of_ble_eq_true rfl, Nat.le_of_ble_eq_true rfl⟩ rfl hl.1 rfl (Nat.le_of_ble_eq_true rfl) dL_law_537 ⟨Nat.le_of_ble_eq_true rfl, Nat.le_of_ble_eq_true rfl⟩) hD hS hA (fun r_2 u_2 H locs hp hP hD hS => ?_)
  obtain ⟨rfl, rfl⟩ := hp
  refine lv_istore (lv' := [(5, .int 1), (0, .ref b), (1, .ref (ad 0)), (2, .ref (am 1)), (3, .ref ao), (4, .int 0)]) hx hb dL_law_540 hl (by decide) rfl (fun ls hl => ?_)
  refine lv_aload_n hx hb dL_law_542 rfl (lv_at hl 3 rfl) ?_
  refine lv_aload_n hx hb dL_law_543 rfl (lv_at hl 1 rfl) ?_
  refine lv_iload hx hb dL_law_544 (lv_at hl 5 rfl) ?_
  refine lv_iconst (v := 1) hx hb dL_law_546 (by decide) ?_
  refine lv_iadd hx hb dL_law_547 ?_
  refine lv_topi (fun v_3 ev_3 => ?_)
  obtain rfl : v_3 = (1 : Int32) := ev_3.trans (by decide)
  refine va_sld hx hb hX hbl hbA hS (i := 1) (by unfold vp_in; decide) dL_law_548 ?_
  refine kI (rV (q0 := 1) (ci := 8) hx hb hml hown hg hN hK hP hD (q_kindOf l D cI cJ cZ cO (ao, .inl (cJ, 1, .inr (.inl g))) am qo F2 G2 (xs (1 : Int32).toNatClampNeg)) mw_706 mw_707 mw_708 mw_709 mw_348 pdv_X8_kindOf ⟨Nat.le_of_ble_eq_true rfl, Nat.le_of_ble_eq_true rfl⟩ rfl rfl rfl hl.1 rfl (Nat.le_of_ble_eq_true rfl) dL_law_549 ⟨Nat.le_of_ble_eq_true rfl, Nat.le_of_ble_eq_true rfl⟩) hD hS hA (fun r_4 u_4 H locs hp hP hD hS => ?_)
  obtain ⟨rfl, mn9, ld9, sw9, sm9, qo9, F9m, G9m, rfl⟩ := hp
  refine lv_istore (lv' := [(6, .int 0), (5, .int 1), (0, .ref b), (1, .ref (ad 0)), (2, .ref (am 1)), (3, .ref ao), (4, .int 0)]) hx hb dL_law_552 hl (by decide) rfl (fun ls hl => ?_)
  refine lv_aload_n hx hb dL_law_554 rfl (lv_at hl 4 rfl) ?_
  refine kI (rV (q0 := 1) (ci := 8) hx hb hml hown hg hN hK hP hD (m_thrown l D cI cJ cZ cO (ao, .inl (cJ, 1, .inr (.inl g))) am qo9 F9m G9m 1 mn9 ld9 sw9 sm9) mw_670 mw_671 mw_672 mw_673 mw_348 pdv_X8_thrown ⟨Nat.le_of_ble_eq_true rfl, Nat.le_of_ble_eq_true rfl⟩ rfl rfl rfl hl.1 rfl (Nat.le_of_ble_eq_true rfl) dL_law_555 ⟨Nat.le_of_ble_eq_true rfl, Nat.le_of_ble_eq_true rfl⟩) hD hS hA (fun r_5 u_5 H locs hp hP hD hS => ?_)
  obtain ⟨rfl, rfl⟩ := hp
  refine lv_iload hx hb dL_law_558 (lv_at hl 1 rfl) ?_
  refine lv_icmp_eq (tgt := 565) hx hb dL_law_560 (by decide) (fun c_560 => ?_) (fun c_560 => absurd (by decide) c_560)
  refine lv_iload hx hb dL_law_565 (lv_at hl 1 rfl) ?_
  refine lv_if_ne (tgt := 582) hx hb dL_law_567 (by decide) (fun c_567 => ?_) (fun c_567 => absurd c_567 (by decide))
  refine lv_goto (tgt := 2279) hx hb dL_law_582 (by decide) ?_
  exact lc_end C0 hAl hbA hS (lv_sub hl [2, 6] rfl) (Nat.le_of_ble_eq_true rfl) (Nat.le_of_ble_eq_true rfl)
set_option maxHeartbeats 4000000 in
set_option maxRecDepth 100000 in
theorem lc_6 {p : Program} {l : Launch} {e : Env} {s : State} {m : MethodId} {below : List Frame} {meth : Method} {c : Code} {b : Nat} {xs : Nat → Int32} {A : Nat → Prop} {H : Heap} {locs : List Loc} {ls : Array Slot} (hfl : l.stackTraces = false) (D : va_G) (cI cJ cZ cO : ClassId) (ad : Nat → Nat) (bf : Nat → Int32) (hb0 : ∀ k, bf k = 0) (F : Nat → Nat → Int32) (G : Nat → Nat → Int64) (ao : Nat) (g : Nat → Int64) (am : Nat → Nat) (qo : Nat) (F2 : Nat → Nat → Int32) (G2 : Nat → Nat → Int64) (C0 : lw_At p s m meth c b 4 xs) (hN : NW s) (hST : ST A s) (hSR : SR s) (hK : va_K D vwCl (TO cI cJ cZ cO) s) (hA : ∀ q, s.heap.size ≤ q → A q) (hAl : ∀ q, A q → s.heap.size ≤ q) (hbA : ¬ A b) (hP : va_P D vwCl (XW ad cI cJ 0 bf F G ++ MW (ao, .inl (cJ, 1, .inr (.inl g))) am cI cJ cZ cO 0 0 0 0 0 qo F2 G2) H) (hD : va_D A (XW ad cI cJ 0 bf F G ++ MW (ao, .inl (cJ, 1, .inr (.inl g))) am cI cJ cZ cO 0 0 0 0 0 qo F2 G2)) (hS : va_S A s.heap H locs) (hl : lv_has ls 9 [(0, .ref b), (1, .ref (ad 0)), (2, .ref (am 1)), (3, .ref ao), (4, .int 0)]) : W p l e room_1 s m #[Value.ref b] below meth c H locs 67 9542 (lw_Z below #[Value.ref b] s) (F0 m 585 ls []) := by
  obtain ⟨hx, hb, hr, hml, hown, hts, hX, hbl, hlocks, hgv⟩ := id C0
  have hg : ∀ w ∈ GW, w.before #[Value.ref b] s = true := fun w hw => hts w (gw_tbl hw)
  refine lv_aload_n hx hb dL_law_585 rfl (lv_at hl 1 rfl) ?_
  refine lv_aload_n hx hb dL_law_586 rfl (lv_at hl 0 rfl) ?_
  refine lv_iload hx hb dL_law_587 (lv_at hl 4 rfl) ?_
  refine lv_iconst (v := 1) hx hb dL_law_589 (by decide) ?_
  refine lv_iadd hx hb dL_law_590 ?_
  refine lv_topi (fun v_1 ev_1 => ?_)
  obtain rfl : v_1 = (1 : Int32) := ev_1.trans (by decide)
  refine va_sld hx hb hX hbl hbA hS (i := 1) (by unfold vp_in; decide) dL_law_591 ?_
  refine lv_aload_n hx hb dL_law_592 rfl (lv_at hl 3 rfl) ?_
  refine kI (rSW hx hb hml hown hg hN hK hP hD hST hSR hS hA (h_targetOf l hfl D cI cJ cZ cO ad bf F G ao g am qo F2 G2 (xs (1 : Int32).toNatClampNeg)) mw_710 mw_711 mw_712 mw_665 pd_L_targetOf ⟨Nat.le_of_ble_eq_true rfl, Nat.le_of_ble_eq_true rfl⟩ rfl hl.1 rfl (Nat.le_of_ble_eq_true rfl) dL_law_593 ⟨Nat.le_of_ble_eq_true rfl, Nat.le_of_ble_eq_true rfl⟩) hD hS hA (fun r_2 u_2 H locs hp hP hD hS => ?_)
  obtain ⟨rfl, rfl⟩ := hp
  refine lv_istore (lv' := [(5, .int 1), (0, .ref b), (1, .ref (ad 0)), (2, .ref (am 1)), (3, .ref ao), (4, .int 0)]) hx hb dL_law_596 hl (by decide) rfl (fun ls hl => ?_)
  refine lv_aload_n hx hb dL_law_598 rfl (lv_at hl 3 rfl) ?_
  refine lv_aload_n hx hb dL_law_599 rfl (lv_at hl 1 rfl) ?_
  refine lv_iload hx hb dL_law_600 (lv_at hl 5 rfl) ?_
  refine lv_iconst (v := 1) hx hb dL_law_602 (by decide) ?_
  refine lv_iadd hx hb dL_law_603 ?_
  refine lv_topi (fun v_3 ev_3 => ?_)
  obtain rfl : v_3 = (1 : Int32) := ev_3.trans (by decide)
  refine va_sld hx hb hX hbl hbA hS (i := 1) (by unfold vp_in; decide) dL_law_604 ?_
  refine kI (rV (q0 := 1) (ci := 8) hx hb hml hown hg hN hK hP hD (q_targetOf l D cI cJ cZ cO (ao, .inl (cJ, 1, .inr (.inl g))) am qo F2 G2 (xs (1 : Int32).toNatClampNeg)) mw_713 mw_714 mw_715 mw_716 mw_348 pdv_X8_targetOf ⟨Nat.le_of_ble_eq_true rfl, Nat.le_of_ble_eq_true rfl⟩ rfl rfl rfl hl.1 rfl (Nat.le_of_ble_eq_true rfl) dL_law_605 ⟨Nat.le_of_ble_eq_true rfl, Nat.le_of_ble_eq_true rfl⟩) hD hS hA (fun r_4 u_4 H locs hp hP hD hS => ?_)
  obtain ⟨rfl, mn9, ld9, sw9, sm9, qo9, F9m, G9m, rfl⟩ := hp
  refine lv_istore (lv' := [(6, .int 0), (5, .int 1), (0, .ref b), (1, .ref (ad 0)), (2, .ref (am 1)), (3, .ref ao), (4, .int 0)]) hx hb dL_law_608 hl (by decide) rfl (fun ls hl => ?_)
  refine lv_aload_n hx hb dL_law_610 rfl (lv_at hl 4 rfl) ?_
  refine kI (rV (q0 := 1) (ci := 8) hx hb hml hown hg hN hK hP hD (m_thrown l D cI cJ cZ cO (ao, .inl (cJ, 1, .inr (.inl g))) am qo9 F9m G9m 1 mn9 ld9 sw9 sm9) mw_670 mw_671 mw_672 mw_673 mw_348 pdv_X8_thrown ⟨Nat.le_of_ble_eq_true rfl, Nat.le_of_ble_eq_true rfl⟩ rfl rfl rfl hl.1 rfl (Nat.le_of_ble_eq_true rfl) dL_law_611 ⟨Nat.le_of_ble_eq_true rfl, Nat.le_of_ble_eq_true rfl⟩) hD hS hA (fun r_5 u_5 H locs hp hP hD hS => ?_)
  obtain ⟨rfl, rfl⟩ := hp
  refine lv_iload hx hb dL_law_614 (lv_at hl 1 rfl) ?_
  refine lv_icmp_eq (tgt := 621) hx hb dL_law_616 (by decide) (fun c_616 => ?_) (fun c_616 => absurd (by decide) c_616)
  refine lv_iload hx hb dL_law_621 (lv_at hl 1 rfl) ?_
  refine lv_if_ne (tgt := 638) hx hb dL_law_623 (by decide) (fun c_623 => ?_) (fun c_623 => absurd c_623 (by decide))
  refine lv_goto (tgt := 2279) hx hb dL_law_638 (by decide) ?_
  exact lc_end C0 hAl hbA hS (lv_sub hl [2, 6] rfl) (Nat.le_of_ble_eq_true rfl) (Nat.le_of_ble_eq_true rfl)
set_option maxHeartbeats 4000000 in
set_option maxRecDepth 100000 in
theorem lc_7 {p : Program} {l : Launch} {e : Env} {s : State} {m : MethodId} {below : List Frame} {meth : Method} {c : Code} {b : Nat} {xs : Nat → Int32} {A : Nat → Prop} {H : Heap} {locs : List Loc} {ls : Array Slot} (hfl : l.stackTraces = false) (D : va_G) (cI cJ cZ cO : ClassId) (ad : Nat → Nat) (bf : Nat → Int32) (hb0 : ∀ k, bf k = 0) (F : Nat → Nat → Int32) (G : Nat → Nat → Int64) (ao : Nat) (g : Nat → Int64) (am : Nat → Nat) (qo : Nat) (F2 : Nat → Nat → Int32) (G2 : Nat → Nat → Int64) (C0 : lw_At p s m meth c b 4 xs) (hN : NW s) (hST : ST A s) (hSR : SR s) (hK : va_K D vwCl (TO cI cJ cZ cO) s) (hA : ∀ q, s.heap.size ≤ q → A q) (hAl : ∀ q, A q → s.heap.size ≤ q) (hbA : ¬ A b) (hP : va_P D vwCl (XW ad cI cJ 0 bf F G ++ MW (ao, .inl (cJ, 1, .inr (.inl g))) am cI cJ cZ cO 0 0 0 0 0 qo F2 G2) H) (hD : va_D A (XW ad cI cJ 0 bf F G ++ MW (ao, .inl (cJ, 1, .inr (.inl g))) am cI cJ cZ cO 0 0 0 0 0 qo F2 G2)) (hS : va_S A s.heap H locs) (hl : lv_has ls 9 [(0, .ref b), (1, .ref (ad 0)), (2, .ref (am 1)), (3, .ref ao), (4, .int 0)]) : W p l e room_1 s m #[Value.ref b] below meth c H locs 67 9542 (lw_Z below #[Value.ref b] s) (F0 m 641 ls []) := by
  obtain ⟨hx, hb, hr, hml, hown, hts, hX, hbl, hlocks, hgv⟩ := id C0
  have hg : ∀ w ∈ GW, w.before #[Value.ref b] s = true := fun w hw => hts w (gw_tbl hw)
  refine lv_aload_n hx hb dL_law_641 rfl (lv_at hl 1 rfl) ?_
  refine kI (rV (q0 := 0) (ci := 7) hx hb hml hown hg hN (hK.sub (tys' := TY cI cJ cZ) [0, 1, 2] rfl) hP hD (p_blocks l D cI cJ cZ ad bf F G (MW (ao, .inl (cJ, 1, .inr (.inl g))) am cI cJ cZ cO 0 0 0 0 0 qo F2 G2) hb0) mw_717 mw_718 mw_719 mw_720 mw_110 pdv_X7_blocks ⟨Nat.le_of_ble_eq_true rfl, Nat.le_of_ble_eq_true rfl⟩ rfl rfl rfl hl.1 rfl (Nat.le_of_ble_eq_true rfl) dL_law_642 ⟨Nat.le_of_ble_eq_true rfl, Nat.le_of_ble_eq_true rfl⟩) hD hS hA (fun r_1 u_1 H locs hp hP hD hS => ?_)
  obtain ⟨rfl, n9, b9, F9, G9, rfl⟩ := hp
  have hP : va_P D vwCl (MW (ao, .inl (cJ, 1, .inr (.inl g))) am cI cJ cZ cO 0 0 0 0 0 qo F2 G2) H := appRP hP
  have hD : va_D A (MW (ao, .inl (cJ, 1, .inr (.inl g))) am cI cJ cZ cO 0 0 0 0 0 qo F2 G2) := appRD hD
  refine lv_aload_n hx hb dL_law_645 rfl (lv_at hl 2 rfl) ?_
  refine kI (rV (q0 := 1) (ci := 8) hx hb hml hown hg hN hK hP hD (q_blocks l D cI cJ cZ cO (ao, .inl (cJ, 1, .inr (.inl g))) am qo F2 G2 ) mw_721 mw_722 mw_723 mw_724 mw_348 pdv_X8_blocks ⟨Nat.le_of_ble_eq_true rfl, Nat.le_of_ble_eq_true rfl⟩ rfl rfl rfl hl.1 rfl (Nat.le_of_ble_eq_true rfl) dL_law_646 ⟨Nat.le_of_ble_eq_true rfl, Nat.le_of_ble_eq_true rfl⟩) hD hS hA (fun r_2 u_2 H locs hp hP hD hS => ?_)
  obtain ⟨rfl, mn9, ld9, sw9, sm9, qo9, F9m, G9m, rfl⟩ := hp
  refine lv_icmp_eq (tgt := 2279) hx hb dL_law_649 (by decide) (fun c_649 => ?_) (fun c_649 => absurd (by decide) c_649)
  exact lc_end C0 hAl hbA hS (lv_sub hl [0, 4] rfl) (Nat.le_of_ble_eq_true rfl) (Nat.le_of_ble_eq_true rfl)
set_option maxHeartbeats 4000000 in
set_option maxRecDepth 100000 in
theorem lc_8 {p : Program} {l : Launch} {e : Env} {s : State} {m : MethodId} {below : List Frame} {meth : Method} {c : Code} {b : Nat} {xs : Nat → Int32} {A : Nat → Prop} {H : Heap} {locs : List Loc} {ls : Array Slot} (hfl : l.stackTraces = false) (D : va_G) (cI cJ cZ cO : ClassId) (ad : Nat → Nat) (bf : Nat → Int32) (hb0 : ∀ k, bf k = 0) (F : Nat → Nat → Int32) (G : Nat → Nat → Int64) (ao : Nat) (g : Nat → Int64) (am : Nat → Nat) (qo : Nat) (F2 : Nat → Nat → Int32) (G2 : Nat → Nat → Int64) (C0 : lw_At p s m meth c b 4 xs) (hN : NW s) (hST : ST A s) (hSR : SR s) (hK : va_K D vwCl (TO cI cJ cZ cO) s) (hA : ∀ q, s.heap.size ≤ q → A q) (hAl : ∀ q, A q → s.heap.size ≤ q) (hbA : ¬ A b) (hP : va_P D vwCl (XW ad cI cJ 0 bf F G ++ MW (ao, .inl (cJ, 1, .inr (.inl g))) am cI cJ cZ cO 0 0 0 0 0 qo F2 G2) H) (hD : va_D A (XW ad cI cJ 0 bf F G ++ MW (ao, .inl (cJ, 1, .inr (.inl g))) am cI cJ cZ cO 0 0 0 0 0 qo F2 G2)) (hS : va_S A s.heap H locs) (hl : lv_has ls 9 [(0, .ref b), (1, .ref (ad 0)), (2, .ref (am 1)), (3, .ref ao), (4, .int 0)]) : W p l e room_1 s m #[Value.ref b] below meth c H locs 67 9542 (lw_Z below #[Value.ref b] s) (F0 m 654 ls []) := by
  obtain ⟨hx, hb, hr, hml, hown, hts, hX, hbl, hlocks, hgv⟩ := id C0
  have hg : ∀ w ∈ GW, w.before #[Value.ref b] s = true := fun w hw => hts w (gw_tbl hw)
  refine lv_aload_n hx hb dL_law_654 rfl (lv_at hl 1 rfl) ?_
  refine lv_aload_n hx hb dL_law_655 rfl (lv_at hl 0 rfl) ?_
  refine lv_iload hx hb dL_law_656 (lv_at hl 4 rfl) ?_
  refine lv_iconst (v := 1) hx hb dL_law_658 (by decide) ?_
  refine lv_iadd hx hb dL_law_659 ?_
  refine lv_topi (fun v_1 ev_1 => ?_)
  obtain rfl : v_1 = (1 : Int32) := ev_1.trans (by decide)
  refine va_sld hx hb hX hbl hbA hS (i := 1) (by unfold vp_in; decide) dL_law_660 ?_
  refine lv_aload_n hx hb dL_law_661 rfl (lv_at hl 3 rfl) ?_
  refine kI (rSW hx hb hml hown hg hN hK hP hD hST hSR hS hA (h_blockOf l hfl D cI cJ cZ cO ad bf F G ao g am qo F2 G2 (xs (1 : Int32).toNatClampNeg)) mw_725 mw_726 mw_727 mw_665 pd_L_blockOf ⟨Nat.le_of_ble_eq_true rfl, Nat.le_of_ble_eq_true rfl⟩ rfl hl.1 rfl (Nat.le_of_ble_eq_true rfl) dL_law_662 ⟨Nat.le_of_ble_eq_true rfl, Nat.le_of_ble_eq_true rfl⟩) hD hS hA (fun r_2 u_2 H locs hp hP hD hS => ?_)
  obtain ⟨rfl, rfl⟩ := hp
  refine lv_istore (lv' := [(5, .int 1), (0, .ref b), (1, .ref (ad 0)), (2, .ref (am 1)), (3, .ref ao), (4, .int 0)]) hx hb dL_law_665 hl (by decide) rfl (fun ls hl => ?_)
  refine lv_aload_n hx hb dL_law_667 rfl (lv_at hl 3 rfl) ?_
  refine lv_aload_n hx hb dL_law_668 rfl (lv_at hl 1 rfl) ?_
  refine lv_iload hx hb dL_law_669 (lv_at hl 5 rfl) ?_
  refine lv_iconst (v := 1) hx hb dL_law_671 (by decide) ?_
  refine lv_iadd hx hb dL_law_672 ?_
  refine lv_topi (fun v_3 ev_3 => ?_)
  obtain rfl : v_3 = (1 : Int32) := ev_3.trans (by decide)
  refine va_sld hx hb hX hbl hbA hS (i := 1) (by unfold vp_in; decide) dL_law_673 ?_
  refine kI (rV (q0 := 1) (ci := 8) hx hb hml hown hg hN hK hP hD (q_blockOf l D cI cJ cZ cO (ao, .inl (cJ, 1, .inr (.inl g))) am qo F2 G2 (xs (1 : Int32).toNatClampNeg)) mw_728 mw_729 mw_730 mw_731 mw_348 pdv_X8_blockOf ⟨Nat.le_of_ble_eq_true rfl, Nat.le_of_ble_eq_true rfl⟩ rfl rfl rfl hl.1 rfl (Nat.le_of_ble_eq_true rfl) dL_law_674 ⟨Nat.le_of_ble_eq_true rfl, Nat.le_of_ble_eq_true rfl⟩) hD hS hA (fun r_4 u_4 H locs hp hP hD hS => ?_)
  obtain ⟨rfl, mn9, ld9, sw9, sm9, qo9, F9m, G9m, rfl⟩ := hp
  refine lv_istore (lv' := [(6, .int 0), (5, .int 1), (0, .ref b), (1, .ref (ad 0)), (2, .ref (am 1)), (3, .ref ao), (4, .int 0)]) hx hb dL_law_677 hl (by decide) rfl (fun ls hl => ?_)
  refine lv_aload_n hx hb dL_law_679 rfl (lv_at hl 4 rfl) ?_
  refine kI (rV (q0 := 1) (ci := 8) hx hb hml hown hg hN hK hP hD (m_thrown l D cI cJ cZ cO (ao, .inl (cJ, 1, .inr (.inl g))) am qo9 F9m G9m 1 mn9 ld9 sw9 sm9) mw_670 mw_671 mw_672 mw_673 mw_348 pdv_X8_thrown ⟨Nat.le_of_ble_eq_true rfl, Nat.le_of_ble_eq_true rfl⟩ rfl rfl rfl hl.1 rfl (Nat.le_of_ble_eq_true rfl) dL_law_680 ⟨Nat.le_of_ble_eq_true rfl, Nat.le_of_ble_eq_true rfl⟩) hD hS hA (fun r_5 u_5 H locs hp hP hD hS => ?_)
  obtain ⟨rfl, rfl⟩ := hp
  refine lv_iload hx hb dL_law_683 (lv_at hl 1 rfl) ?_
  refine lv_icmp_eq (tgt := 690) hx hb dL_law_685 (by decide) (fun c_685 => ?_) (fun c_685 => absurd (by decide) c_685)
  refine lv_iload hx hb dL_law_690 (lv_at hl 1 rfl) ?_
  refine lv_if_ne (tgt := 707) hx hb dL_law_692 (by decide) (fun c_692 => ?_) (fun c_692 => absurd c_692 (by decide))
  refine lv_goto (tgt := 2279) hx hb dL_law_707 (by decide) ?_
  exact lc_end C0 hAl hbA hS (lv_sub hl [2, 6] rfl) (Nat.le_of_ble_eq_true rfl) (Nat.le_of_ble_eq_true rfl)
set_option maxHeartbeats 4000000 in
set_option maxRecDepth 100000 in
theorem lc_9 {p : Program} {l : Launch} {e : Env} {s : State} {m : MethodId} {below : List Frame} {meth : Method} {c : Code} {b : Nat} {xs : Nat → Int32} {A : Nat → Prop} {H : Heap} {locs : List Loc} {ls : Array Slot} (hfl : l.stackTraces = false) (D : va_G) (cI cJ cZ cO : ClassId) (ad : Nat → Nat) (bf : Nat → Int32) (hb0 : ∀ k, bf k = 0) (F : Nat → Nat → Int32) (G : Nat → Nat → Int64) (ao : Nat) (g : Nat → Int64) (am : Nat → Nat) (qo : Nat) (F2 : Nat → Nat → Int32) (G2 : Nat → Nat → Int64) (C0 : lw_At p s m meth c b 4 xs) (hN : NW s) (hST : ST A s) (hSR : SR s) (hK : va_K D vwCl (TO cI cJ cZ cO) s) (hA : ∀ q, s.heap.size ≤ q → A q) (hAl : ∀ q, A q → s.heap.size ≤ q) (hbA : ¬ A b) (hP : va_P D vwCl (XW ad cI cJ 0 bf F G ++ MW (ao, .inl (cJ, 1, .inr (.inl g))) am cI cJ cZ cO 0 0 0 0 0 qo F2 G2) H) (hD : va_D A (XW ad cI cJ 0 bf F G ++ MW (ao, .inl (cJ, 1, .inr (.inl g))) am cI cJ cZ cO 0 0 0 0 0 qo F2 G2)) (hS : va_S A s.heap H locs) (hl : lv_has ls 9 [(0, .ref b), (1, .ref (ad 0)), (2, .ref (am 1)), (3, .ref ao), (4, .int 0)]) : W p l e room_1 s m #[Value.ref b] below meth c H locs 67 9542 (lw_Z below #[Value.ref b] s) (F0 m 710 ls []) := by
  obtain ⟨hx, hb, hr, hml, hown, hts, hX, hbl, hlocks, hgv⟩ := id C0
  have hg : ∀ w ∈ GW, w.before #[Value.ref b] s = true := fun w hw => hts w (gw_tbl hw)
  refine lv_aload_n hx hb dL_law_710 rfl (lv_at hl 1 rfl) ?_
  refine lv_aload_n hx hb dL_law_711 rfl (lv_at hl 0 rfl) ?_
  refine lv_iload hx hb dL_law_712 (lv_at hl 4 rfl) ?_
  refine lv_iconst (v := 1) hx hb dL_law_714 (by decide) ?_
  refine lv_iadd hx hb dL_law_715 ?_
  refine lv_topi (fun v_1 ev_1 => ?_)
  obtain rfl : v_1 = (1 : Int32) := ev_1.trans (by decide)
  refine va_sld hx hb hX hbl hbA hS (i := 1) (by unfold vp_in; decide) dL_law_716 ?_
  refine lv_aload_n hx hb dL_law_717 rfl (lv_at hl 3 rfl) ?_
  refine kI (rSW hx hb hml hown hg hN hK hP hD hST hSR hS hA (h_firstOf l hfl D cI cJ cZ cO ad bf F G ao g am qo F2 G2 (xs (1 : Int32).toNatClampNeg)) mw_732 mw_733 mw_734 mw_665 pd_L_firstOf ⟨Nat.le_of_ble_eq_true rfl, Nat.le_of_ble_eq_true rfl⟩ rfl hl.1 rfl (Nat.le_of_ble_eq_true rfl) dL_law_718 ⟨Nat.le_of_ble_eq_true rfl, Nat.le_of_ble_eq_true rfl⟩) hD hS hA (fun r_2 u_2 H locs hp hP hD hS => ?_)
  obtain ⟨rfl, rfl⟩ := hp
  refine lv_istore (lv' := [(5, .int 1), (0, .ref b), (1, .ref (ad 0)), (2, .ref (am 1)), (3, .ref ao), (4, .int 0)]) hx hb dL_law_721 hl (by decide) rfl (fun ls hl => ?_)
  refine lv_aload_n hx hb dL_law_723 rfl (lv_at hl 3 rfl) ?_
  refine lv_aload_n hx hb dL_law_724 rfl (lv_at hl 1 rfl) ?_
  refine lv_iload hx hb dL_law_725 (lv_at hl 5 rfl) ?_
  refine lv_iconst (v := 1) hx hb dL_law_727 (by decide) ?_
  refine lv_iadd hx hb dL_law_728 ?_
  refine lv_topi (fun v_3 ev_3 => ?_)
  obtain rfl : v_3 = (1 : Int32) := ev_3.trans (by decide)
  refine va_sld hx hb hX hbl hbA hS (i := 1) (by unfold vp_in; decide) dL_law_729 ?_
  refine kI (rV (q0 := 1) (ci := 8) hx hb hml hown hg hN hK hP hD (q_firstOf l D cI cJ cZ cO (ao, .inl (cJ, 1, .inr (.inl g))) am qo F2 G2 (xs (1 : Int32).toNatClampNeg)) mw_735 mw_736 mw_737 mw_738 mw_348 pdv_X8_firstOf ⟨Nat.le_of_ble_eq_true rfl, Nat.le_of_ble_eq_true rfl⟩ rfl rfl rfl hl.1 rfl (Nat.le_of_ble_eq_true rfl) dL_law_730 ⟨Nat.le_of_ble_eq_true rfl, Nat.le_of_ble_eq_true rfl⟩) hD hS hA (fun r_4 u_4 H locs hp hP hD hS => ?_)
  obtain ⟨rfl, mn9, ld9, sw9, sm9, qo9, F9m, G9m, rfl⟩ := hp
  refine lv_istore (lv' := [(6, .int 0), (5, .int 1), (0, .ref b), (1, .ref (ad 0)), (2, .ref (am 1)), (3, .ref ao), (4, .int 0)]) hx hb dL_law_733 hl (by decide) rfl (fun ls hl => ?_)
  refine lv_aload_n hx hb dL_law_735 rfl (lv_at hl 4 rfl) ?_
  refine kI (rV (q0 := 1) (ci := 8) hx hb hml hown hg hN hK hP hD (m_thrown l D cI cJ cZ cO (ao, .inl (cJ, 1, .inr (.inl g))) am qo9 F9m G9m 1 mn9 ld9 sw9 sm9) mw_670 mw_671 mw_672 mw_673 mw_348 pdv_X8_thrown ⟨Nat.le_of_ble_eq_true rfl, Nat.le_of_ble_eq_true rfl⟩ rfl rfl rfl hl.1 rfl (Nat.le_of_ble_eq_true rfl) dL_law_736 ⟨Nat.le_of_ble_eq_true rfl, Nat.le_of_ble_eq_true rfl⟩) hD hS hA (fun r_5 u_5 H locs hp hP hD hS => ?_)
  obtain ⟨rfl, rfl⟩ := hp
  refine lv_iload hx hb dL_law_739 (lv_at hl 1 rfl) ?_
  refine lv_icmp_eq (tgt := 746) hx hb dL_law_741 (by decide) (fun c_741 => ?_) (fun c_741 => absurd (by decide) c_741)
  refine lv_iload hx hb dL_law_746 (lv_at hl 1 rfl) ?_
  refine lv_if_ne (tgt := 763) hx hb dL_law_748 (by decide) (fun c_748 => ?_) (fun c_748 => absurd c_748 (by decide))
  refine lv_goto (tgt := 2279) hx hb dL_law_763 (by decide) ?_
  exact lc_end C0 hAl hbA hS (lv_sub hl [2, 6] rfl) (Nat.le_of_ble_eq_true rfl) (Nat.le_of_ble_eq_true rfl)
set_option maxHeartbeats 4000000 in
set_option maxRecDepth 100000 in
theorem lc_10 {p : Program} {l : Launch} {e : Env} {s : State} {m : MethodId} {below : List Frame} {meth : Method} {c : Code} {b : Nat} {xs : Nat → Int32} {A : Nat → Prop} {H : Heap} {locs : List Loc} {ls : Array Slot} (hfl : l.stackTraces = false) (D : va_G) (cI cJ cZ cO : ClassId) (ad : Nat → Nat) (bf : Nat → Int32) (hb0 : ∀ k, bf k = 0) (F : Nat → Nat → Int32) (G : Nat → Nat → Int64) (ao : Nat) (g : Nat → Int64) (am : Nat → Nat) (qo : Nat) (F2 : Nat → Nat → Int32) (G2 : Nat → Nat → Int64) (C0 : lw_At p s m meth c b 4 xs) (hN : NW s) (hST : ST A s) (hSR : SR s) (hK : va_K D vwCl (TO cI cJ cZ cO) s) (hA : ∀ q, s.heap.size ≤ q → A q) (hAl : ∀ q, A q → s.heap.size ≤ q) (hbA : ¬ A b) (hP : va_P D vwCl (XW ad cI cJ 0 bf F G ++ MW (ao, .inl (cJ, 1, .inr (.inl g))) am cI cJ cZ cO 0 0 0 0 0 qo F2 G2) H) (hD : va_D A (XW ad cI cJ 0 bf F G ++ MW (ao, .inl (cJ, 1, .inr (.inl g))) am cI cJ cZ cO 0 0 0 0 0 qo F2 G2)) (hS : va_S A s.heap H locs) (hl : lv_has ls 9 [(0, .ref b), (1, .ref (ad 0)), (2, .ref (am 1)), (3, .ref ao), (4, .int 0)]) : W p l e room_1 s m #[Value.ref b] below meth c H locs 67 9542 (lw_Z below #[Value.ref b] s) (F0 m 766 ls []) := by
  obtain ⟨hx, hb, hr, hml, hown, hts, hX, hbl, hlocks, hgv⟩ := id C0
  have hg : ∀ w ∈ GW, w.before #[Value.ref b] s = true := fun w hw => hts w (gw_tbl hw)
  refine lv_aload_n hx hb dL_law_766 rfl (lv_at hl 1 rfl) ?_
  refine lv_aload_n hx hb dL_law_767 rfl (lv_at hl 0 rfl) ?_
  refine lv_iload hx hb dL_law_768 (lv_at hl 4 rfl) ?_
  refine lv_iconst (v := 1) hx hb dL_law_770 (by decide) ?_
  refine lv_iadd hx hb dL_law_771 ?_
  refine lv_topi (fun v_1 ev_1 => ?_)
  obtain rfl : v_1 = (1 : Int32) := ev_1.trans (by decide)
  refine va_sld hx hb hX hbl hbA hS (i := 1) (by unfold vp_in; decide) dL_law_772 ?_
  refine lv_aload_n hx hb dL_law_773 rfl (lv_at hl 3 rfl) ?_
  refine kI (rSW hx hb hml hown hg hN hK hP hD hST hSR hS hA (h_isReached l hfl D cI cJ cZ cO ad bf F G ao g am qo F2 G2 (xs (1 : Int32).toNatClampNeg)) mw_739 mw_740 mw_741 mw_665 pd_L_isReached ⟨Nat.le_of_ble_eq_true rfl, Nat.le_of_ble_eq_true rfl⟩ rfl hl.1 rfl (Nat.le_of_ble_eq_true rfl) dL_law_774 ⟨Nat.le_of_ble_eq_true rfl, Nat.le_of_ble_eq_true rfl⟩) hD hS hA (fun r_2 u_2 H locs hp hP hD hS => ?_)
  obtain ⟨rfl, rfl⟩ := hp
  refine lv_istore (lv' := [(5, .int 1), (0, .ref b), (1, .ref (ad 0)), (2, .ref (am 1)), (3, .ref ao), (4, .int 0)]) hx hb dL_law_777 hl (by decide) rfl (fun ls hl => ?_)
  refine lv_aload_n hx hb dL_law_779 rfl (lv_at hl 3 rfl) ?_
  refine lv_aload_n hx hb dL_law_780 rfl (lv_at hl 1 rfl) ?_
  refine lv_iload hx hb dL_law_781 (lv_at hl 5 rfl) ?_
  refine lv_iconst (v := 1) hx hb dL_law_783 (by decide) ?_
  refine lv_iadd hx hb dL_law_784 ?_
  refine lv_topi (fun v_3 ev_3 => ?_)
  obtain rfl : v_3 = (1 : Int32) := ev_3.trans (by decide)
  refine va_sld hx hb hX hbl hbA hS (i := 1) (by unfold vp_in; decide) dL_law_785 ?_
  refine kI (rV (q0 := 1) (ci := 8) hx hb hml hown hg hN hK hP hD (q_isReached l D cI cJ cZ cO (ao, .inl (cJ, 1, .inr (.inl g))) am qo F2 G2 (xs (1 : Int32).toNatClampNeg)) mw_742 mw_743 mw_744 mw_745 mw_348 pdv_X8_isReached ⟨Nat.le_of_ble_eq_true rfl, Nat.le_of_ble_eq_true rfl⟩ rfl rfl rfl hl.1 rfl (Nat.le_of_ble_eq_true rfl) dL_law_786 ⟨Nat.le_of_ble_eq_true rfl, Nat.le_of_ble_eq_true rfl⟩) hD hS hA (fun r_4 u_4 H locs hp hP hD hS => ?_)
  obtain ⟨rfl, mn9, ld9, sw9, sm9, qo9, F9m, G9m, rfl⟩ := hp
  refine lv_istore (lv' := [(6, .int 0), (5, .int 1), (0, .ref b), (1, .ref (ad 0)), (2, .ref (am 1)), (3, .ref ao), (4, .int 0)]) hx hb dL_law_789 hl (by decide) rfl (fun ls hl => ?_)
  refine lv_aload_n hx hb dL_law_791 rfl (lv_at hl 4 rfl) ?_
  refine kI (rV (q0 := 1) (ci := 8) hx hb hml hown hg hN hK hP hD (m_thrown l D cI cJ cZ cO (ao, .inl (cJ, 1, .inr (.inl g))) am qo9 F9m G9m 1 mn9 ld9 sw9 sm9) mw_670 mw_671 mw_672 mw_673 mw_348 pdv_X8_thrown ⟨Nat.le_of_ble_eq_true rfl, Nat.le_of_ble_eq_true rfl⟩ rfl rfl rfl hl.1 rfl (Nat.le_of_ble_eq_true rfl) dL_law_792 ⟨Nat.le_of_ble_eq_true rfl, Nat.le_of_ble_eq_true rfl⟩) hD hS hA (fun r_5 u_5 H locs hp hP hD hS => ?_)
  obtain ⟨rfl, rfl⟩ := hp
  refine lv_iload hx hb dL_law_795 (lv_at hl 1 rfl) ?_
  refine lv_icmp_eq (tgt := 802) hx hb dL_law_797 (by decide) (fun c_797 => ?_) (fun c_797 => absurd (by decide) c_797)
  refine lv_iload hx hb dL_law_802 (lv_at hl 1 rfl) ?_
  refine lv_if_ne (tgt := 826) hx hb dL_law_804 (by decide) (fun c_804 => ?_) (fun c_804 => absurd c_804 (by decide))
  refine lv_goto (tgt := 2279) hx hb dL_law_826 (by decide) ?_
  exact lc_end C0 hAl hbA hS (lv_sub hl [2, 6] rfl) (Nat.le_of_ble_eq_true rfl) (Nat.le_of_ble_eq_true rfl)
set_option maxHeartbeats 4000000 in
set_option maxRecDepth 100000 in
theorem lc_11 {p : Program} {l : Launch} {e : Env} {s : State} {m : MethodId} {below : List Frame} {meth : Method} {c : Code} {b : Nat} {xs : Nat → Int32} {A : Nat → Prop} {H : Heap} {locs : List Loc} {ls : Array Slot} (hfl : l.stackTraces = false) (D : va_G) (cI cJ cZ cO : ClassId) (ad : Nat → Nat) (bf : Nat → Int32) (hb0 : ∀ k, bf k = 0) (F : Nat → Nat → Int32) (G : Nat → Nat → Int64) (ao : Nat) (g : Nat → Int64) (am : Nat → Nat) (qo : Nat) (F2 : Nat → Nat → Int32) (G2 : Nat → Nat → Int64) (C0 : lw_At p s m meth c b 4 xs) (hN : NW s) (hST : ST A s) (hSR : SR s) (hK : va_K D vwCl (TO cI cJ cZ cO) s) (hA : ∀ q, s.heap.size ≤ q → A q) (hAl : ∀ q, A q → s.heap.size ≤ q) (hbA : ¬ A b) (hP : va_P D vwCl (XW ad cI cJ 0 bf F G ++ MW (ao, .inl (cJ, 1, .inr (.inl g))) am cI cJ cZ cO 0 0 0 0 0 qo F2 G2) H) (hD : va_D A (XW ad cI cJ 0 bf F G ++ MW (ao, .inl (cJ, 1, .inr (.inl g))) am cI cJ cZ cO 0 0 0 0 0 qo F2 G2)) (hS : va_S A s.heap H locs) (hl : lv_has ls 9 [(0, .ref b), (1, .ref (ad 0)), (2, .ref (am 1)), (3, .ref ao), (4, .int 0)]) : W p l e room_1 s m #[Value.ref b] below meth c H locs 67 9542 (lw_Z below #[Value.ref b] s) (F0 m 829 ls []) := by
  obtain ⟨hx, hb, hr, hml, hown, hts, hX, hbl, hlocks, hgv⟩ := id C0
  have hg : ∀ w ∈ GW, w.before #[Value.ref b] s = true := fun w hw => hts w (gw_tbl hw)
  refine lv_aload_n hx hb dL_law_829 rfl (lv_at hl 1 rfl) ?_
  refine kI (rV (q0 := 0) (ci := 7) hx hb hml hown hg hN (hK.sub (tys' := TY cI cJ cZ) [0, 1, 2] rfl) hP hD (p_edges l D cI cJ cZ ad bf F G (MW (ao, .inl (cJ, 1, .inr (.inl g))) am cI cJ cZ cO 0 0 0 0 0 qo F2 G2) hb0) mw_746 mw_747 mw_748 mw_749 mw_110 pdv_X7_edges ⟨Nat.le_of_ble_eq_true rfl, Nat.le_of_ble_eq_true rfl⟩ rfl rfl rfl hl.1 rfl (Nat.le_of_ble_eq_true rfl) dL_law_830 ⟨Nat.le_of_ble_eq_true rfl, Nat.le_of_ble_eq_true rfl⟩) hD hS hA (fun r_1 u_1 H locs hp hP hD hS => ?_)
  obtain ⟨rfl, n9, b9, F9, G9, rfl⟩ := hp
  have hP : va_P D vwCl (MW (ao, .inl (cJ, 1, .inr (.inl g))) am cI cJ cZ cO 0 0 0 0 0 qo F2 G2) H := appRP hP
  have hD : va_D A (MW (ao, .inl (cJ, 1, .inr (.inl g))) am cI cJ cZ cO 0 0 0 0 0 qo F2 G2) := appRD hD
  refine lv_aload_n hx hb dL_law_833 rfl (lv_at hl 2 rfl) ?_
  refine kI (rV (q0 := 1) (ci := 8) hx hb hml hown hg hN hK hP hD (q_edges l D cI cJ cZ cO (ao, .inl (cJ, 1, .inr (.inl g))) am qo F2 G2 ) mw_750 mw_751 mw_752 mw_753 mw_348 pdv_X8_edges ⟨Nat.le_of_ble_eq_true rfl, Nat.le_of_ble_eq_true rfl⟩ rfl rfl rfl hl.1 rfl (Nat.le_of_ble_eq_true rfl) dL_law_834 ⟨Nat.le_of_ble_eq_true rfl, Nat.le_of_ble_eq_true rfl⟩) hD hS hA (fun r_2 u_2 H locs hp hP hD hS => ?_)
  obtain ⟨rfl, mn9, ld9, sw9, sm9, qo9, F9m, G9m, rfl⟩ := hp
  refine lv_icmp_eq (tgt := 2279) hx hb dL_law_837 (by decide) (fun c_837 => ?_) (fun c_837 => absurd (by decide) c_837)
  exact lc_end C0 hAl hbA hS (lv_sub hl [0, 4] rfl) (Nat.le_of_ble_eq_true rfl) (Nat.le_of_ble_eq_true rfl)
set_option maxHeartbeats 4000000 in
set_option maxRecDepth 100000 in
theorem lc_12 {p : Program} {l : Launch} {e : Env} {s : State} {m : MethodId} {below : List Frame} {meth : Method} {c : Code} {b : Nat} {xs : Nat → Int32} {A : Nat → Prop} {H : Heap} {locs : List Loc} {ls : Array Slot} (hfl : l.stackTraces = false) (D : va_G) (cI cJ cZ cO : ClassId) (ad : Nat → Nat) (bf : Nat → Int32) (hb0 : ∀ k, bf k = 0) (F : Nat → Nat → Int32) (G : Nat → Nat → Int64) (ao : Nat) (g : Nat → Int64) (am : Nat → Nat) (qo : Nat) (F2 : Nat → Nat → Int32) (G2 : Nat → Nat → Int64) (C0 : lw_At p s m meth c b 4 xs) (hN : NW s) (hST : ST A s) (hSR : SR s) (hK : va_K D vwCl (TO cI cJ cZ cO) s) (hA : ∀ q, s.heap.size ≤ q → A q) (hAl : ∀ q, A q → s.heap.size ≤ q) (hbA : ¬ A b) (hP : va_P D vwCl (XW ad cI cJ 0 bf F G ++ MW (ao, .inl (cJ, 1, .inr (.inl g))) am cI cJ cZ cO 0 0 0 0 0 qo F2 G2) H) (hD : va_D A (XW ad cI cJ 0 bf F G ++ MW (ao, .inl (cJ, 1, .inr (.inl g))) am cI cJ cZ cO 0 0 0 0 0 qo F2 G2)) (hS : va_S A s.heap H locs) (hl : lv_has ls 9 [(0, .ref b), (1, .ref (ad 0)), (2, .ref (am 1)), (3, .ref ao), (4, .int 0)]) : W p l e room_1 s m #[Value.ref b] below meth c H locs 67 9542 (lw_Z below #[Value.ref b] s) (F0 m 842 ls []) := by
  obtain ⟨hx, hb, hr, hml, hown, hts, hX, hbl, hlocks, hgv⟩ := id C0
  have hg : ∀ w ∈ GW, w.before #[Value.ref b] s = true := fun w hw => hts w (gw_tbl hw)
  refine lv_aload_n hx hb dL_law_842 rfl (lv_at hl 1 rfl) ?_
  refine lv_aload_n hx hb dL_law_843 rfl (lv_at hl 0 rfl) ?_
  refine lv_iload hx hb dL_law_844 (lv_at hl 4 rfl) ?_
  refine lv_iconst (v := 1) hx hb dL_law_846 (by decide) ?_
  refine lv_iadd hx hb dL_law_847 ?_
  refine lv_topi (fun v_1 ev_1 => ?_)
  obtain rfl : v_1 = (1 : Int32) := ev_1.trans (by decide)
  refine va_sld hx hb hX hbl hbA hS (i := 1) (by unfold vp_in; decide) dL_law_848 ?_
  refine lv_aload_n hx hb dL_law_849 rfl (lv_at hl 3 rfl) ?_
  refine kI (rSW hx hb hml hown hg hN hK hP hD hST hSR hS hA (h_edgeFrom l hfl D cI cJ cZ cO ad bf F G ao g am qo F2 G2 (xs (1 : Int32).toNatClampNeg)) mw_754 mw_755 mw_756 mw_665 pd_L_edgeFrom ⟨Nat.le_of_ble_eq_true rfl, Nat.le_of_ble_eq_true rfl⟩ rfl hl.1 rfl (Nat.le_of_ble_eq_true rfl) dL_law_850 ⟨Nat.le_of_ble_eq_true rfl, Nat.le_of_ble_eq_true rfl⟩) hD hS hA (fun r_2 u_2 H locs hp hP hD hS => ?_)
  obtain ⟨rfl, rfl⟩ := hp
  refine lv_istore (lv' := [(5, .int 1), (0, .ref b), (1, .ref (ad 0)), (2, .ref (am 1)), (3, .ref ao), (4, .int 0)]) hx hb dL_law_853 hl (by decide) rfl (fun ls hl => ?_)
  refine lv_aload_n hx hb dL_law_855 rfl (lv_at hl 3 rfl) ?_
  refine lv_aload_n hx hb dL_law_856 rfl (lv_at hl 1 rfl) ?_
  refine lv_iload hx hb dL_law_857 (lv_at hl 5 rfl) ?_
  refine lv_iconst (v := 1) hx hb dL_law_859 (by decide) ?_
  refine lv_iadd hx hb dL_law_860 ?_
  refine lv_topi (fun v_3 ev_3 => ?_)
  obtain rfl : v_3 = (1 : Int32) := ev_3.trans (by decide)
  refine va_sld hx hb hX hbl hbA hS (i := 1) (by unfold vp_in; decide) dL_law_861 ?_
  refine kI (rV (q0 := 1) (ci := 8) hx hb hml hown hg hN hK hP hD (q_edgeFrom l D cI cJ cZ cO (ao, .inl (cJ, 1, .inr (.inl g))) am qo F2 G2 (xs (1 : Int32).toNatClampNeg)) mw_757 mw_758 mw_759 mw_760 mw_348 pdv_X8_edgeFrom ⟨Nat.le_of_ble_eq_true rfl, Nat.le_of_ble_eq_true rfl⟩ rfl rfl rfl hl.1 rfl (Nat.le_of_ble_eq_true rfl) dL_law_862 ⟨Nat.le_of_ble_eq_true rfl, Nat.le_of_ble_eq_true rfl⟩) hD hS hA (fun r_4 u_4 H locs hp hP hD hS => ?_)
  obtain ⟨rfl, mn9, ld9, sw9, sm9, qo9, F9m, G9m, rfl⟩ := hp
  refine lv_istore (lv' := [(6, .int 0), (5, .int 1), (0, .ref b), (1, .ref (ad 0)), (2, .ref (am 1)), (3, .ref ao), (4, .int 0)]) hx hb dL_law_865 hl (by decide) rfl (fun ls hl => ?_)
  refine lv_aload_n hx hb dL_law_867 rfl (lv_at hl 4 rfl) ?_
  refine kI (rV (q0 := 1) (ci := 8) hx hb hml hown hg hN hK hP hD (m_thrown l D cI cJ cZ cO (ao, .inl (cJ, 1, .inr (.inl g))) am qo9 F9m G9m 1 mn9 ld9 sw9 sm9) mw_670 mw_671 mw_672 mw_673 mw_348 pdv_X8_thrown ⟨Nat.le_of_ble_eq_true rfl, Nat.le_of_ble_eq_true rfl⟩ rfl rfl rfl hl.1 rfl (Nat.le_of_ble_eq_true rfl) dL_law_868 ⟨Nat.le_of_ble_eq_true rfl, Nat.le_of_ble_eq_true rfl⟩) hD hS hA (fun r_5 u_5 H locs hp hP hD hS => ?_)
  obtain ⟨rfl, rfl⟩ := hp
  refine lv_iload hx hb dL_law_871 (lv_at hl 1 rfl) ?_
  refine lv_icmp_eq (tgt := 878) hx hb dL_law_873 (by decide) (fun c_873 => ?_) (fun c_873 => absurd (by decide) c_873)
  refine lv_iload hx hb dL_law_878 (lv_at hl 1 rfl) ?_
  refine lv_if_ne (tgt := 895) hx hb dL_law_880 (by decide) (fun c_880 => ?_) (fun c_880 => absurd c_880 (by decide))
  refine lv_goto (tgt := 2279) hx hb dL_law_895 (by decide) ?_
  exact lc_end C0 hAl hbA hS (lv_sub hl [2, 6] rfl) (Nat.le_of_ble_eq_true rfl) (Nat.le_of_ble_eq_true rfl)
set_option maxHeartbeats 4000000 in
set_option maxRecDepth 100000 in
theorem lc_13 {p : Program} {l : Launch} {e : Env} {s : State} {m : MethodId} {below : List Frame} {meth : Method} {c : Code} {b : Nat} {xs : Nat → Int32} {A : Nat → Prop} {H : Heap} {locs : List Loc} {ls : Array Slot} (hfl : l.stackTraces = false) (D : va_G) (cI cJ cZ cO : ClassId) (ad : Nat → Nat) (bf : Nat → Int32) (hb0 : ∀ k, bf k = 0) (F : Nat → Nat → Int32) (G : Nat → Nat → Int64) (ao : Nat) (g : Nat → Int64) (am : Nat → Nat) (qo : Nat) (F2 : Nat → Nat → Int32) (G2 : Nat → Nat → Int64) (C0 : lw_At p s m meth c b 4 xs) (hN : NW s) (hST : ST A s) (hSR : SR s) (hK : va_K D vwCl (TO cI cJ cZ cO) s) (hA : ∀ q, s.heap.size ≤ q → A q) (hAl : ∀ q, A q → s.heap.size ≤ q) (hbA : ¬ A b) (hP : va_P D vwCl (XW ad cI cJ 0 bf F G ++ MW (ao, .inl (cJ, 1, .inr (.inl g))) am cI cJ cZ cO 0 0 0 0 0 qo F2 G2) H) (hD : va_D A (XW ad cI cJ 0 bf F G ++ MW (ao, .inl (cJ, 1, .inr (.inl g))) am cI cJ cZ cO 0 0 0 0 0 qo F2 G2)) (hS : va_S A s.heap H locs) (hl : lv_has ls 9 [(0, .ref b), (1, .ref (ad 0)), (2, .ref (am 1)), (3, .ref ao), (4, .int 0)]) : W p l e room_1 s m #[Value.ref b] below meth c H locs 67 9542 (lw_Z below #[Value.ref b] s) (F0 m 898 ls []) := by
  obtain ⟨hx, hb, hr, hml, hown, hts, hX, hbl, hlocks, hgv⟩ := id C0
  have hg : ∀ w ∈ GW, w.before #[Value.ref b] s = true := fun w hw => hts w (gw_tbl hw)
  refine lv_aload_n hx hb dL_law_898 rfl (lv_at hl 1 rfl) ?_
  refine lv_aload_n hx hb dL_law_899 rfl (lv_at hl 0 rfl) ?_
  refine lv_iload hx hb dL_law_900 (lv_at hl 4 rfl) ?_
  refine lv_iconst (v := 1) hx hb dL_law_902 (by decide) ?_
  refine lv_iadd hx hb dL_law_903 ?_
  refine lv_topi (fun v_1 ev_1 => ?_)
  obtain rfl : v_1 = (1 : Int32) := ev_1.trans (by decide)
  refine va_sld hx hb hX hbl hbA hS (i := 1) (by unfold vp_in; decide) dL_law_904 ?_
  refine lv_aload_n hx hb dL_law_905 rfl (lv_at hl 3 rfl) ?_
  refine kI (rSW hx hb hml hown hg hN hK hP hD hST hSR hS hA (h_edgeTo l hfl D cI cJ cZ cO ad bf F G ao g am qo F2 G2 (xs (1 : Int32).toNatClampNeg)) mw_761 mw_762 mw_763 mw_665 pd_L_edgeTo ⟨Nat.le_of_ble_eq_true rfl, Nat.le_of_ble_eq_true rfl⟩ rfl hl.1 rfl (Nat.le_of_ble_eq_true rfl) dL_law_906 ⟨Nat.le_of_ble_eq_true rfl, Nat.le_of_ble_eq_true rfl⟩) hD hS hA (fun r_2 u_2 H locs hp hP hD hS => ?_)
  obtain ⟨rfl, rfl⟩ := hp
  refine lv_istore (lv' := [(5, .int 1), (0, .ref b), (1, .ref (ad 0)), (2, .ref (am 1)), (3, .ref ao), (4, .int 0)]) hx hb dL_law_909 hl (by decide) rfl (fun ls hl => ?_)
  refine lv_aload_n hx hb dL_law_911 rfl (lv_at hl 3 rfl) ?_
  refine lv_aload_n hx hb dL_law_912 rfl (lv_at hl 1 rfl) ?_
  refine lv_iload hx hb dL_law_913 (lv_at hl 5 rfl) ?_
  refine lv_iconst (v := 1) hx hb dL_law_915 (by decide) ?_
  refine lv_iadd hx hb dL_law_916 ?_
  refine lv_topi (fun v_3 ev_3 => ?_)
  obtain rfl : v_3 = (1 : Int32) := ev_3.trans (by decide)
  refine va_sld hx hb hX hbl hbA hS (i := 1) (by unfold vp_in; decide) dL_law_917 ?_
  refine kI (rV (q0 := 1) (ci := 8) hx hb hml hown hg hN hK hP hD (q_edgeTo l D cI cJ cZ cO (ao, .inl (cJ, 1, .inr (.inl g))) am qo F2 G2 (xs (1 : Int32).toNatClampNeg)) mw_764 mw_765 mw_766 mw_767 mw_348 pdv_X8_edgeTo ⟨Nat.le_of_ble_eq_true rfl, Nat.le_of_ble_eq_true rfl⟩ rfl rfl rfl hl.1 rfl (Nat.le_of_ble_eq_true rfl) dL_law_918 ⟨Nat.le_of_ble_eq_true rfl, Nat.le_of_ble_eq_true rfl⟩) hD hS hA (fun r_4 u_4 H locs hp hP hD hS => ?_)
  obtain ⟨rfl, mn9, ld9, sw9, sm9, qo9, F9m, G9m, rfl⟩ := hp
  refine lv_istore (lv' := [(6, .int 0), (5, .int 1), (0, .ref b), (1, .ref (ad 0)), (2, .ref (am 1)), (3, .ref ao), (4, .int 0)]) hx hb dL_law_921 hl (by decide) rfl (fun ls hl => ?_)
  refine lv_aload_n hx hb dL_law_923 rfl (lv_at hl 4 rfl) ?_
  refine kI (rV (q0 := 1) (ci := 8) hx hb hml hown hg hN hK hP hD (m_thrown l D cI cJ cZ cO (ao, .inl (cJ, 1, .inr (.inl g))) am qo9 F9m G9m 1 mn9 ld9 sw9 sm9) mw_670 mw_671 mw_672 mw_673 mw_348 pdv_X8_thrown ⟨Nat.le_of_ble_eq_true rfl, Nat.le_of_ble_eq_true rfl⟩ rfl rfl rfl hl.1 rfl (Nat.le_of_ble_eq_true rfl) dL_law_924 ⟨Nat.le_of_ble_eq_true rfl, Nat.le_of_ble_eq_true rfl⟩) hD hS hA (fun r_5 u_5 H locs hp hP hD hS => ?_)
  obtain ⟨rfl, rfl⟩ := hp
  refine lv_iload hx hb dL_law_927 (lv_at hl 1 rfl) ?_
  refine lv_icmp_eq (tgt := 934) hx hb dL_law_929 (by decide) (fun c_929 => ?_) (fun c_929 => absurd (by decide) c_929)
  refine lv_iload hx hb dL_law_934 (lv_at hl 1 rfl) ?_
  refine lv_if_ne (tgt := 951) hx hb dL_law_936 (by decide) (fun c_936 => ?_) (fun c_936 => absurd c_936 (by decide))
  refine lv_goto (tgt := 2279) hx hb dL_law_951 (by decide) ?_
  exact lc_end C0 hAl hbA hS (lv_sub hl [2, 6] rfl) (Nat.le_of_ble_eq_true rfl) (Nat.le_of_ble_eq_true rfl)
set_option maxHeartbeats 4000000 in
set_option maxRecDepth 100000 in
theorem lc_14 {p : Program} {l : Launch} {e : Env} {s : State} {m : MethodId} {below : List Frame} {meth : Method} {c : Code} {b : Nat} {xs : Nat → Int32} {A : Nat → Prop} {H : Heap} {locs : List Loc} {ls : Array Slot} (hfl : l.stackTraces = false) (D : va_G) (cI cJ cZ cO : ClassId) (ad : Nat → Nat) (bf : Nat → Int32) (hb0 : ∀ k, bf k = 0) (F : Nat → Nat → Int32) (G : Nat → Nat → Int64) (ao : Nat) (g : Nat → Int64) (am : Nat → Nat) (qo : Nat) (F2 : Nat → Nat → Int32) (G2 : Nat → Nat → Int64) (C0 : lw_At p s m meth c b 4 xs) (hN : NW s) (hST : ST A s) (hSR : SR s) (hK : va_K D vwCl (TO cI cJ cZ cO) s) (hA : ∀ q, s.heap.size ≤ q → A q) (hAl : ∀ q, A q → s.heap.size ≤ q) (hbA : ¬ A b) (hP : va_P D vwCl (XW ad cI cJ 0 bf F G ++ MW (ao, .inl (cJ, 1, .inr (.inl g))) am cI cJ cZ cO 0 0 0 0 0 qo F2 G2) H) (hD : va_D A (XW ad cI cJ 0 bf F G ++ MW (ao, .inl (cJ, 1, .inr (.inl g))) am cI cJ cZ cO 0 0 0 0 0 qo F2 G2)) (hS : va_S A s.heap H locs) (hl : lv_has ls 9 [(0, .ref b), (1, .ref (ad 0)), (2, .ref (am 1)), (3, .ref ao), (4, .int 0)]) : W p l e room_1 s m #[Value.ref b] below meth c H locs 67 9542 (lw_Z below #[Value.ref b] s) (F0 m 954 ls []) := by
  obtain ⟨hx, hb, hr, hml, hown, hts, hX, hbl, hlocks, hgv⟩ := id C0
  have hg : ∀ w ∈ GW, w.before #[Value.ref b] s = true := fun w hw => hts w (gw_tbl hw)
  refine lv_aload_n hx hb dL_law_954 rfl (lv_at hl 1 rfl) ?_
  refine lv_aload_n hx hb dL_law_955 rfl (lv_at hl 0 rfl) ?_
  refine lv_iload hx hb dL_law_956 (lv_at hl 4 rfl) ?_
  refine lv_iconst (v := 1) hx hb dL_law_958 (by decide) ?_
  refine lv_iadd hx hb dL_law_959 ?_
  refine lv_topi (fun v_1 ev_1 => ?_)
  obtain rfl : v_1 = (1 : Int32) := ev_1.trans (by decide)
  refine va_sld hx hb hX hbl hbA hS (i := 1) (by unfold vp_in; decide) dL_law_960 ?_
  refine lv_aload_n hx hb dL_law_961 rfl (lv_at hl 0 rfl) ?_
  refine lv_iload hx hb dL_law_962 (lv_at hl 4 rfl) ?_
  refine lv_iconst (v := 2) hx hb dL_law_964 (by decide) ?_
  refine lv_iadd hx hb dL_law_965 ?_
  refine lv_topi (fun v_2 ev_2 => ?_)
  obtain rfl : v_2 = (2 : Int32) := ev_2.trans (by decide)
  refine va_sld hx hb hX hbl hbA hS (i := 2) (by unfold vp_in; decide) dL_law_966 ?_
  refine lv_aload_n hx hb dL_law_967 rfl (lv_at hl 3 rfl) ?_
  refine kI (rSW hx hb hml hown hg hN hK hP hD hST hSR hS hA (h_dominates l hfl D cI cJ cZ cO ad bf F G ao g am qo F2 G2 (xs (1 : Int32).toNatClampNeg) (xs (2 : Int32).toNatClampNeg)) mw_768 mw_769 mw_770 mw_665 pd_L_dominates ⟨Nat.le_of_ble_eq_true rfl, Nat.le_of_ble_eq_true rfl⟩ rfl hl.1 rfl (Nat.le_of_ble_eq_true rfl) dL_law_968 ⟨Nat.le_of_ble_eq_true rfl, Nat.le_of_ble_eq_true rfl⟩) hD hS hA (fun r_3 u_3 H locs hp hP hD hS => ?_)
  obtain ⟨rfl, rfl⟩ := hp
  refine lv_istore (lv' := [(5, .int 1), (0, .ref b), (1, .ref (ad 0)), (2, .ref (am 1)), (3, .ref ao), (4, .int 0)]) hx hb dL_law_971 hl (by decide) rfl (fun ls hl => ?_)
  refine lv_aload_n hx hb dL_law_973 rfl (lv_at hl 3 rfl) ?_
  refine lv_aload_n hx hb dL_law_974 rfl (lv_at hl 1 rfl) ?_
  refine lv_iload hx hb dL_law_975 (lv_at hl 5 rfl) ?_
  refine lv_iconst (v := 1) hx hb dL_law_977 (by decide) ?_
  refine lv_iadd hx hb dL_law_978 ?_
  refine lv_topi (fun v_4 ev_4 => ?_)
  obtain rfl : v_4 = (1 : Int32) := ev_4.trans (by decide)
  refine va_sld hx hb hX hbl hbA hS (i := 1) (by unfold vp_in; decide) dL_law_979 ?_
  refine lv_aload_n hx hb dL_law_980 rfl (lv_at hl 1 rfl) ?_
  refine lv_iload hx hb dL_law_981 (lv_at hl 5 rfl) ?_
  refine lv_iconst (v := 2) hx hb dL_law_983 (by decide) ?_
  refine lv_iadd hx hb dL_law_984 ?_
  refine lv_topi (fun v_5 ev_5 => ?_)
  obtain rfl : v_5 = (2 : Int32) := ev_5.trans (by decide)
  refine va_sld hx hb hX hbl hbA hS (i := 2) (by unfold vp_in; decide) dL_law_985 ?_
  refine kI (rV (q0 := 1) (ci := 8) hx hb hml hown hg hN hK hP hD (q_dominates l D cI cJ cZ cO (ao, .inl (cJ, 1, .inr (.inl g))) am qo F2 G2 (xs (1 : Int32).toNatClampNeg) (xs (2 : Int32).toNatClampNeg)) mw_771 mw_772 mw_773 mw_774 mw_348 pdv_X8_dominates ⟨Nat.le_of_ble_eq_true rfl, Nat.le_of_ble_eq_true rfl⟩ rfl rfl rfl hl.1 rfl (Nat.le_of_ble_eq_true rfl) dL_law_986 ⟨Nat.le_of_ble_eq_true rfl, Nat.le_of_ble_eq_true rfl⟩) hD hS hA (fun r_6 u_6 H locs hp hP hD hS => ?_)
  obtain ⟨rfl, mn9, ld9, sw9, sm9, qo9, F9m, G9m, rfl⟩ := hp
  refine lv_istore (lv' := [(6, .int 0), (5, .int 1), (0, .ref b), (1, .ref (ad 0)), (2, .ref (am 1)), (3, .ref ao), (4, .int 0)]) hx hb dL_law_989 hl (by decide) rfl (fun ls hl => ?_)
  refine lv_aload_n hx hb dL_law_991 rfl (lv_at hl 4 rfl) ?_
  refine kI (rV (q0 := 1) (ci := 8) hx hb hml hown hg hN hK hP hD (m_thrown l D cI cJ cZ cO (ao, .inl (cJ, 1, .inr (.inl g))) am qo9 F9m G9m 1 mn9 ld9 sw9 sm9) mw_670 mw_671 mw_672 mw_673 mw_348 pdv_X8_thrown ⟨Nat.le_of_ble_eq_true rfl, Nat.le_of_ble_eq_true rfl⟩ rfl rfl rfl hl.1 rfl (Nat.le_of_ble_eq_true rfl) dL_law_992 ⟨Nat.le_of_ble_eq_true rfl, Nat.le_of_ble_eq_true rfl⟩) hD hS hA (fun r_7 u_7 H locs hp hP hD hS => ?_)
  obtain ⟨rfl, rfl⟩ := hp
  refine lv_iload hx hb dL_law_995 (lv_at hl 1 rfl) ?_
  refine lv_icmp_eq (tgt := 1002) hx hb dL_law_997 (by decide) (fun c_997 => ?_) (fun c_997 => absurd (by decide) c_997)
  refine lv_iload hx hb dL_law_1002 (lv_at hl 1 rfl) ?_
  refine lv_if_ne (tgt := 1026) hx hb dL_law_1004 (by decide) (fun c_1004 => ?_) (fun c_1004 => absurd c_1004 (by decide))
  refine lv_goto (tgt := 2279) hx hb dL_law_1026 (by decide) ?_
  exact lc_end C0 hAl hbA hS (lv_sub hl [2, 6] rfl) (Nat.le_of_ble_eq_true rfl) (Nat.le_of_ble_eq_true rfl)
set_option maxHeartbeats 4000000 in
set_option maxRecDepth 100000 in
theorem lc_15 {p : Program} {l : Launch} {e : Env} {s : State} {m : MethodId} {below : List Frame} {meth : Method} {c : Code} {b : Nat} {xs : Nat → Int32} {A : Nat → Prop} {H : Heap} {locs : List Loc} {ls : Array Slot} (hfl : l.stackTraces = false) (D : va_G) (cI cJ cZ cO : ClassId) (ad : Nat → Nat) (bf : Nat → Int32) (hb0 : ∀ k, bf k = 0) (F : Nat → Nat → Int32) (G : Nat → Nat → Int64) (ao : Nat) (g : Nat → Int64) (am : Nat → Nat) (qo : Nat) (F2 : Nat → Nat → Int32) (G2 : Nat → Nat → Int64) (C0 : lw_At p s m meth c b 4 xs) (hN : NW s) (hST : ST A s) (hSR : SR s) (hK : va_K D vwCl (TO cI cJ cZ cO) s) (hA : ∀ q, s.heap.size ≤ q → A q) (hAl : ∀ q, A q → s.heap.size ≤ q) (hbA : ¬ A b) (hP : va_P D vwCl (XW ad cI cJ 0 bf F G ++ MW (ao, .inl (cJ, 1, .inr (.inl g))) am cI cJ cZ cO 0 0 0 0 0 qo F2 G2) H) (hD : va_D A (XW ad cI cJ 0 bf F G ++ MW (ao, .inl (cJ, 1, .inr (.inl g))) am cI cJ cZ cO 0 0 0 0 0 qo F2 G2)) (hS : va_S A s.heap H locs) (hl : lv_has ls 9 [(0, .ref b), (1, .ref (ad 0)), (2, .ref (am 1)), (3, .ref ao), (4, .int 0)]) : W p l e room_1 s m #[Value.ref b] below meth c H locs 67 9542 (lw_Z below #[Value.ref b] s) (F0 m 1029 ls []) := by
  obtain ⟨hx, hb, hr, hml, hown, hts, hX, hbl, hlocks, hgv⟩ := id C0
  have hg : ∀ w ∈ GW, w.before #[Value.ref b] s = true := fun w hw => hts w (gw_tbl hw)
  refine lv_aload_n hx hb dL_law_1029 rfl (lv_at hl 1 rfl) ?_
  refine lv_aload_n hx hb dL_law_1030 rfl (lv_at hl 0 rfl) ?_
  refine lv_iload hx hb dL_law_1031 (lv_at hl 4 rfl) ?_
  refine lv_iconst (v := 1) hx hb dL_law_1033 (by decide) ?_
  refine lv_iadd hx hb dL_law_1034 ?_
  refine lv_topi (fun v_1 ev_1 => ?_)
  obtain rfl : v_1 = (1 : Int32) := ev_1.trans (by decide)
  refine va_sld hx hb hX hbl hbA hS (i := 1) (by unfold vp_in; decide) dL_law_1035 ?_
  refine lv_aload_n hx hb dL_law_1036 rfl (lv_at hl 3 rfl) ?_
  refine kI (rSW hx hb hml hown hg hN hK hP hD hST hSR hS hA (h_parentOf l hfl D cI cJ cZ cO ad bf F G ao g am qo F2 G2 (xs (1 : Int32).toNatClampNeg)) mw_775 mw_776 mw_777 mw_665 pd_L_parentOf ⟨Nat.le_of_ble_eq_true rfl, Nat.le_of_ble_eq_true rfl⟩ rfl hl.1 rfl (Nat.le_of_ble_eq_true rfl) dL_law_1037 ⟨Nat.le_of_ble_eq_true rfl, Nat.le_of_ble_eq_true rfl⟩) hD hS hA (fun r_2 u_2 H locs hp hP hD hS => ?_)
  obtain ⟨rfl, rfl⟩ := hp
  refine lv_istore (lv' := [(5, .int 1), (0, .ref b), (1, .ref (ad 0)), (2, .ref (am 1)), (3, .ref ao), (4, .int 0)]) hx hb dL_law_1040 hl (by decide) rfl (fun ls hl => ?_)
  refine lv_aload_n hx hb dL_law_1042 rfl (lv_at hl 3 rfl) ?_
  refine lv_aload_n hx hb dL_law_1043 rfl (lv_at hl 1 rfl) ?_
  refine lv_iload hx hb dL_law_1044 (lv_at hl 5 rfl) ?_
  refine lv_iconst (v := 1) hx hb dL_law_1046 (by decide) ?_
  refine lv_iadd hx hb dL_law_1047 ?_
  refine lv_topi (fun v_3 ev_3 => ?_)
  obtain rfl : v_3 = (1 : Int32) := ev_3.trans (by decide)
  refine va_sld hx hb hX hbl hbA hS (i := 1) (by unfold vp_in; decide) dL_law_1048 ?_
  refine kI (rV (q0 := 1) (ci := 8) hx hb hml hown hg hN hK hP hD (q_parentOf l D cI cJ cZ cO (ao, .inl (cJ, 1, .inr (.inl g))) am qo F2 G2 (xs (1 : Int32).toNatClampNeg)) mw_778 mw_779 mw_780 mw_781 mw_348 pdv_X8_parentOf ⟨Nat.le_of_ble_eq_true rfl, Nat.le_of_ble_eq_true rfl⟩ rfl rfl rfl hl.1 rfl (Nat.le_of_ble_eq_true rfl) dL_law_1049 ⟨Nat.le_of_ble_eq_true rfl, Nat.le_of_ble_eq_true rfl⟩) hD hS hA (fun r_4 u_4 H locs hp hP hD hS => ?_)
  obtain ⟨rfl, mn9, ld9, sw9, sm9, qo9, F9m, G9m, rfl⟩ := hp
  refine lv_istore (lv' := [(6, .int 0), (5, .int 1), (0, .ref b), (1, .ref (ad 0)), (2, .ref (am 1)), (3, .ref ao), (4, .int 0)]) hx hb dL_law_1052 hl (by decide) rfl (fun ls hl => ?_)
  refine lv_aload_n hx hb dL_law_1054 rfl (lv_at hl 4 rfl) ?_
  refine kI (rV (q0 := 1) (ci := 8) hx hb hml hown hg hN hK hP hD (m_thrown l D cI cJ cZ cO (ao, .inl (cJ, 1, .inr (.inl g))) am qo9 F9m G9m 1 mn9 ld9 sw9 sm9) mw_670 mw_671 mw_672 mw_673 mw_348 pdv_X8_thrown ⟨Nat.le_of_ble_eq_true rfl, Nat.le_of_ble_eq_true rfl⟩ rfl rfl rfl hl.1 rfl (Nat.le_of_ble_eq_true rfl) dL_law_1055 ⟨Nat.le_of_ble_eq_true rfl, Nat.le_of_ble_eq_true rfl⟩) hD hS hA (fun r_5 u_5 H locs hp hP hD hS => ?_)
  obtain ⟨rfl, rfl⟩ := hp
  refine lv_iload hx hb dL_law_1058 (lv_at hl 1 rfl) ?_
  refine lv_icmp_eq (tgt := 1065) hx hb dL_law_1060 (by decide) (fun c_1060 => ?_) (fun c_1060 => absurd (by decide) c_1060)
  refine lv_iload hx hb dL_law_1065 (lv_at hl 1 rfl) ?_
  refine lv_if_ne (tgt := 1082) hx hb dL_law_1067 (by decide) (fun c_1067 => ?_) (fun c_1067 => absurd c_1067 (by decide))
  refine lv_goto (tgt := 2279) hx hb dL_law_1082 (by decide) ?_
  exact lc_end C0 hAl hbA hS (lv_sub hl [2, 6] rfl) (Nat.le_of_ble_eq_true rfl) (Nat.le_of_ble_eq_true rfl)
set_option maxHeartbeats 4000000 in
set_option maxRecDepth 100000 in
theorem lc_16 {p : Program} {l : Launch} {e : Env} {s : State} {m : MethodId} {below : List Frame} {meth : Method} {c : Code} {b : Nat} {xs : Nat → Int32} {A : Nat → Prop} {H : Heap} {locs : List Loc} {ls : Array Slot} (hfl : l.stackTraces = false) (D : va_G) (cI cJ cZ cO : ClassId) (ad : Nat → Nat) (bf : Nat → Int32) (hb0 : ∀ k, bf k = 0) (F : Nat → Nat → Int32) (G : Nat → Nat → Int64) (ao : Nat) (g : Nat → Int64) (am : Nat → Nat) (qo : Nat) (F2 : Nat → Nat → Int32) (G2 : Nat → Nat → Int64) (C0 : lw_At p s m meth c b 4 xs) (hN : NW s) (hST : ST A s) (hSR : SR s) (hK : va_K D vwCl (TO cI cJ cZ cO) s) (hA : ∀ q, s.heap.size ≤ q → A q) (hAl : ∀ q, A q → s.heap.size ≤ q) (hbA : ¬ A b) (hP : va_P D vwCl (XW ad cI cJ 0 bf F G ++ MW (ao, .inl (cJ, 1, .inr (.inl g))) am cI cJ cZ cO 0 0 0 0 0 qo F2 G2) H) (hD : va_D A (XW ad cI cJ 0 bf F G ++ MW (ao, .inl (cJ, 1, .inr (.inl g))) am cI cJ cZ cO 0 0 0 0 0 qo F2 G2)) (hS : va_S A s.heap H locs) (hl : lv_has ls 9 [(0, .ref b), (1, .ref (ad 0)), (2, .ref (am 1)), (3, .ref ao), (4, .int 0)]) : W p l e room_1 s m #[Value.ref b] below meth c H locs 67 9542 (lw_Z below #[Value.ref b] s) (F0 m 1085 ls []) := by
  obtain ⟨hx, hb, hr, hml, hown, hts, hX, hbl, hlocks, hgv⟩ := id C0
  have hg : ∀ w ∈ GW, w.before #[Value.ref b] s = true := fun w hw => hts w (gw_tbl hw)
  refine lv_aload_n hx hb dL_law_1085 rfl (lv_at hl 1 rfl) ?_
  refine lv_aload_n hx hb dL_law_1086 rfl (lv_at hl 0 rfl) ?_
  refine lv_iload hx hb dL_law_1087 (lv_at hl 4 rfl) ?_
  refine lv_iconst (v := 1) hx hb dL_law_1089 (by decide) ?_
  refine lv_iadd hx hb dL_law_1090 ?_
  refine lv_topi (fun v_1 ev_1 => ?_)
  obtain rfl : v_1 = (1 : Int32) := ev_1.trans (by decide)
  refine va_sld hx hb hX hbl hbA hS (i := 1) (by unfold vp_in; decide) dL_law_1091 ?_
  refine lv_aload_n hx hb dL_law_1092 rfl (lv_at hl 0 rfl) ?_
  refine lv_iload hx hb dL_law_1093 (lv_at hl 4 rfl) ?_
  refine lv_iconst (v := 2) hx hb dL_law_1095 (by decide) ?_
  refine lv_iadd hx hb dL_law_1096 ?_
  refine lv_topi (fun v_2 ev_2 => ?_)
  obtain rfl : v_2 = (2 : Int32) := ev_2.trans (by decide)
  refine va_sld hx hb hX hbl hbA hS (i := 2) (by unfold vp_in; decide) dL_law_1097 ?_
  refine lv_aload_n hx hb dL_law_1098 rfl (lv_at hl 3 rfl) ?_
  refine kI (rSW hx hb hml hown hg hN hK hP hD hST hSR hS hA (h_comesBehind l hfl D cI cJ cZ cO ad bf F G ao g am qo F2 G2 (xs (1 : Int32).toNatClampNeg) (xs (2 : Int32).toNatClampNeg)) mw_782 mw_783 mw_784 mw_665 pd_L_comesBehind ⟨Nat.le_of_ble_eq_true rfl, Nat.le_of_ble_eq_true rfl⟩ rfl hl.1 rfl (Nat.le_of_ble_eq_true rfl) dL_law_1099 ⟨Nat.le_of_ble_eq_true rfl, Nat.le_of_ble_eq_true rfl⟩) hD hS hA (fun r_3 u_3 H locs hp hP hD hS => ?_)
  obtain ⟨rfl, rfl⟩ := hp
  refine lv_istore (lv' := [(5, .int 1), (0, .ref b), (1, .ref (ad 0)), (2, .ref (am 1)), (3, .ref ao), (4, .int 0)]) hx hb dL_law_1102 hl (by decide) rfl (fun ls hl => ?_)
  refine lv_aload_n hx hb dL_law_1104 rfl (lv_at hl 3 rfl) ?_
  refine lv_aload_n hx hb dL_law_1105 rfl (lv_at hl 1 rfl) ?_
  refine lv_iload hx hb dL_law_1106 (lv_at hl 5 rfl) ?_
  refine lv_iconst (v := 1) hx hb dL_law_1108 (by decide) ?_
  refine lv_iadd hx hb dL_law_1109 ?_
  refine lv_topi (fun v_4 ev_4 => ?_)
  obtain rfl : v_4 = (1 : Int32) := ev_4.trans (by decide)
  refine va_sld hx hb hX hbl hbA hS (i := 1) (by unfold vp_in; decide) dL_law_1110 ?_
  refine lv_aload_n hx hb dL_law_1111 rfl (lv_at hl 1 rfl) ?_
  refine lv_iload hx hb dL_law_1112 (lv_at hl 5 rfl) ?_
  refine lv_iconst (v := 2) hx hb dL_law_1114 (by decide) ?_
  refine lv_iadd hx hb dL_law_1115 ?_
  refine lv_topi (fun v_5 ev_5 => ?_)
  obtain rfl : v_5 = (2 : Int32) := ev_5.trans (by decide)
  refine va_sld hx hb hX hbl hbA hS (i := 2) (by unfold vp_in; decide) dL_law_1116 ?_
  refine kI (rV (q0 := 1) (ci := 8) hx hb hml hown hg hN hK hP hD (q_comesBehind l D cI cJ cZ cO (ao, .inl (cJ, 1, .inr (.inl g))) am qo F2 G2 (xs (1 : Int32).toNatClampNeg) (xs (2 : Int32).toNatClampNeg)) mw_785 mw_786 mw_787 mw_788 mw_348 pdv_X8_comesBehind ⟨Nat.le_of_ble_eq_true rfl, Nat.le_of_ble_eq_true rfl⟩ rfl rfl rfl hl.1 rfl (Nat.le_of_ble_eq_true rfl) dL_law_1117 ⟨Nat.le_of_ble_eq_true rfl, Nat.le_of_ble_eq_true rfl⟩) hD hS hA (fun r_6 u_6 H locs hp hP hD hS => ?_)
  obtain ⟨rfl, mn9, ld9, sw9, sm9, qo9, F9m, G9m, rfl⟩ := hp
  refine lv_istore (lv' := [(6, .int 0), (5, .int 1), (0, .ref b), (1, .ref (ad 0)), (2, .ref (am 1)), (3, .ref ao), (4, .int 0)]) hx hb dL_law_1120 hl (by decide) rfl (fun ls hl => ?_)
  refine lv_aload_n hx hb dL_law_1122 rfl (lv_at hl 4 rfl) ?_
  refine kI (rV (q0 := 1) (ci := 8) hx hb hml hown hg hN hK hP hD (m_thrown l D cI cJ cZ cO (ao, .inl (cJ, 1, .inr (.inl g))) am qo9 F9m G9m 1 mn9 ld9 sw9 sm9) mw_670 mw_671 mw_672 mw_673 mw_348 pdv_X8_thrown ⟨Nat.le_of_ble_eq_true rfl, Nat.le_of_ble_eq_true rfl⟩ rfl rfl rfl hl.1 rfl (Nat.le_of_ble_eq_true rfl) dL_law_1123 ⟨Nat.le_of_ble_eq_true rfl, Nat.le_of_ble_eq_true rfl⟩) hD hS hA (fun r_7 u_7 H locs hp hP hD hS => ?_)
  obtain ⟨rfl, rfl⟩ := hp
  refine lv_iload hx hb dL_law_1126 (lv_at hl 1 rfl) ?_
  refine lv_icmp_eq (tgt := 1133) hx hb dL_law_1128 (by decide) (fun c_1128 => ?_) (fun c_1128 => absurd (by decide) c_1128)
  refine lv_iload hx hb dL_law_1133 (lv_at hl 1 rfl) ?_
  refine lv_if_ne (tgt := 1157) hx hb dL_law_1135 (by decide) (fun c_1135 => ?_) (fun c_1135 => absurd c_1135 (by decide))
  refine lv_goto (tgt := 2279) hx hb dL_law_1157 (by decide) ?_
  exact lc_end C0 hAl hbA hS (lv_sub hl [2, 6] rfl) (Nat.le_of_ble_eq_true rfl) (Nat.le_of_ble_eq_true rfl)
set_option maxHeartbeats 4000000 in
set_option maxRecDepth 100000 in
theorem lc_17 {p : Program} {l : Launch} {e : Env} {s : State} {m : MethodId} {below : List Frame} {meth : Method} {c : Code} {b : Nat} {xs : Nat → Int32} {A : Nat → Prop} {H : Heap} {locs : List Loc} {ls : Array Slot} (hfl : l.stackTraces = false) (D : va_G) (cI cJ cZ cO : ClassId) (ad : Nat → Nat) (bf : Nat → Int32) (hb0 : ∀ k, bf k = 0) (F : Nat → Nat → Int32) (G : Nat → Nat → Int64) (ao : Nat) (g : Nat → Int64) (am : Nat → Nat) (qo : Nat) (F2 : Nat → Nat → Int32) (G2 : Nat → Nat → Int64) (C0 : lw_At p s m meth c b 4 xs) (hN : NW s) (hST : ST A s) (hSR : SR s) (hK : va_K D vwCl (TO cI cJ cZ cO) s) (hA : ∀ q, s.heap.size ≤ q → A q) (hAl : ∀ q, A q → s.heap.size ≤ q) (hbA : ¬ A b) (hP : va_P D vwCl (XW ad cI cJ 0 bf F G ++ MW (ao, .inl (cJ, 1, .inr (.inl g))) am cI cJ cZ cO 0 0 0 0 0 qo F2 G2) H) (hD : va_D A (XW ad cI cJ 0 bf F G ++ MW (ao, .inl (cJ, 1, .inr (.inl g))) am cI cJ cZ cO 0 0 0 0 0 qo F2 G2)) (hS : va_S A s.heap H locs) (hl : lv_has ls 9 [(0, .ref b), (1, .ref (ad 0)), (2, .ref (am 1)), (3, .ref ao), (4, .int 0)]) : W p l e room_1 s m #[Value.ref b] below meth c H locs 67 9542 (lw_Z below #[Value.ref b] s) (F0 m 1160 ls []) := by
  obtain ⟨hx, hb, hr, hml, hown, hts, hX, hbl, hlocks, hgv⟩ := id C0
  have hg : ∀ w ∈ GW, w.before #[Value.ref b] s = true := fun w hw => hts w (gw_tbl hw)
  refine lv_aload_n hx hb dL_law_1160 rfl (lv_at hl 1 rfl) ?_
  refine lv_aload_n hx hb dL_law_1161 rfl (lv_at hl 0 rfl) ?_
  refine lv_iload hx hb dL_law_1162 (lv_at hl 4 rfl) ?_
  refine lv_iconst (v := 1) hx hb dL_law_1164 (by decide) ?_
  refine lv_iadd hx hb dL_law_1165 ?_
  refine lv_topi (fun v_1 ev_1 => ?_)
  obtain rfl : v_1 = (1 : Int32) := ev_1.trans (by decide)
  refine va_sld hx hb hX hbl hbA hS (i := 1) (by unfold vp_in; decide) dL_law_1166 ?_
  refine lv_aload_n hx hb dL_law_1167 rfl (lv_at hl 3 rfl) ?_
  refine kI (rSW hx hb hml hown hg hN hK hP hD hST hSR hS hA (h_isBack l hfl D cI cJ cZ cO ad bf F G ao g am qo F2 G2 (xs (1 : Int32).toNatClampNeg)) mw_789 mw_790 mw_791 mw_665 pd_L_isBack ⟨Nat.le_of_ble_eq_true rfl, Nat.le_of_ble_eq_true rfl⟩ rfl hl.1 rfl (Nat.le_of_ble_eq_true rfl) dL_law_1168 ⟨Nat.le_of_ble_eq_true rfl, Nat.le_of_ble_eq_true rfl⟩) hD hS hA (fun r_2 u_2 H locs hp hP hD hS => ?_)
  obtain ⟨rfl, rfl⟩ := hp
  refine lv_istore (lv' := [(5, .int 1), (0, .ref b), (1, .ref (ad 0)), (2, .ref (am 1)), (3, .ref ao), (4, .int 0)]) hx hb dL_law_1171 hl (by decide) rfl (fun ls hl => ?_)
  refine lv_aload_n hx hb dL_law_1173 rfl (lv_at hl 3 rfl) ?_
  refine lv_aload_n hx hb dL_law_1174 rfl (lv_at hl 1 rfl) ?_
  refine lv_iload hx hb dL_law_1175 (lv_at hl 5 rfl) ?_
  refine lv_iconst (v := 1) hx hb dL_law_1177 (by decide) ?_
  refine lv_iadd hx hb dL_law_1178 ?_
  refine lv_topi (fun v_3 ev_3 => ?_)
  obtain rfl : v_3 = (1 : Int32) := ev_3.trans (by decide)
  refine va_sld hx hb hX hbl hbA hS (i := 1) (by unfold vp_in; decide) dL_law_1179 ?_
  refine kI (rV (q0 := 1) (ci := 8) hx hb hml hown hg hN hK hP hD (q_isBack l D cI cJ cZ cO (ao, .inl (cJ, 1, .inr (.inl g))) am qo F2 G2 (xs (1 : Int32).toNatClampNeg)) mw_792 mw_793 mw_794 mw_795 mw_348 pdv_X8_isBack ⟨Nat.le_of_ble_eq_true rfl, Nat.le_of_ble_eq_true rfl⟩ rfl rfl rfl hl.1 rfl (Nat.le_of_ble_eq_true rfl) dL_law_1180 ⟨Nat.le_of_ble_eq_true rfl, Nat.le_of_ble_eq_true rfl⟩) hD hS hA (fun r_4 u_4 H locs hp hP hD hS => ?_)
  obtain ⟨rfl, mn9, ld9, sw9, sm9, qo9, F9m, G9m, rfl⟩ := hp
  refine lv_istore (lv' := [(6, .int 0), (5, .int 1), (0, .ref b), (1, .ref (ad 0)), (2, .ref (am 1)), (3, .ref ao), (4, .int 0)]) hx hb dL_law_1183 hl (by decide) rfl (fun ls hl => ?_)
  refine lv_aload_n hx hb dL_law_1185 rfl (lv_at hl 4 rfl) ?_
  refine kI (rV (q0 := 1) (ci := 8) hx hb hml hown hg hN hK hP hD (m_thrown l D cI cJ cZ cO (ao, .inl (cJ, 1, .inr (.inl g))) am qo9 F9m G9m 1 mn9 ld9 sw9 sm9) mw_670 mw_671 mw_672 mw_673 mw_348 pdv_X8_thrown ⟨Nat.le_of_ble_eq_true rfl, Nat.le_of_ble_eq_true rfl⟩ rfl rfl rfl hl.1 rfl (Nat.le_of_ble_eq_true rfl) dL_law_1186 ⟨Nat.le_of_ble_eq_true rfl, Nat.le_of_ble_eq_true rfl⟩) hD hS hA (fun r_5 u_5 H locs hp hP hD hS => ?_)
  obtain ⟨rfl, rfl⟩ := hp
  refine lv_iload hx hb dL_law_1189 (lv_at hl 1 rfl) ?_
  refine lv_icmp_eq (tgt := 1196) hx hb dL_law_1191 (by decide) (fun c_1191 => ?_) (fun c_1191 => absurd (by decide) c_1191)
  refine lv_iload hx hb dL_law_1196 (lv_at hl 1 rfl) ?_
  refine lv_if_ne (tgt := 1220) hx hb dL_law_1198 (by decide) (fun c_1198 => ?_) (fun c_1198 => absurd c_1198 (by decide))
  refine lv_goto (tgt := 2279) hx hb dL_law_1220 (by decide) ?_
  exact lc_end C0 hAl hbA hS (lv_sub hl [2, 6] rfl) (Nat.le_of_ble_eq_true rfl) (Nat.le_of_ble_eq_true rfl)
set_option maxHeartbeats 4000000 in
set_option maxRecDepth 100000 in
theorem lc_18 {p : Program} {l : Launch} {e : Env} {s : State} {m : MethodId} {below : List Frame} {meth : Method} {c : Code} {b : Nat} {xs : Nat → Int32} {A : Nat → Prop} {H : Heap} {locs : List Loc} {ls : Array Slot} (hfl : l.stackTraces = false) (D : va_G) (cI cJ cZ cO : ClassId) (ad : Nat → Nat) (bf : Nat → Int32) (hb0 : ∀ k, bf k = 0) (F : Nat → Nat → Int32) (G : Nat → Nat → Int64) (ao : Nat) (g : Nat → Int64) (am : Nat → Nat) (qo : Nat) (F2 : Nat → Nat → Int32) (G2 : Nat → Nat → Int64) (C0 : lw_At p s m meth c b 4 xs) (hN : NW s) (hST : ST A s) (hSR : SR s) (hK : va_K D vwCl (TO cI cJ cZ cO) s) (hA : ∀ q, s.heap.size ≤ q → A q) (hAl : ∀ q, A q → s.heap.size ≤ q) (hbA : ¬ A b) (hP : va_P D vwCl (XW ad cI cJ 0 bf F G ++ MW (ao, .inl (cJ, 1, .inr (.inl g))) am cI cJ cZ cO 0 0 0 0 0 qo F2 G2) H) (hD : va_D A (XW ad cI cJ 0 bf F G ++ MW (ao, .inl (cJ, 1, .inr (.inl g))) am cI cJ cZ cO 0 0 0 0 0 qo F2 G2)) (hS : va_S A s.heap H locs) (hl : lv_has ls 9 [(0, .ref b), (1, .ref (ad 0)), (2, .ref (am 1)), (3, .ref ao), (4, .int 0)]) : W p l e room_1 s m #[Value.ref b] below meth c H locs 67 9542 (lw_Z below #[Value.ref b] s) (F0 m 1223 ls []) := by
  obtain ⟨hx, hb, hr, hml, hown, hts, hX, hbl, hlocks, hgv⟩ := id C0
  have hg : ∀ w ∈ GW, w.before #[Value.ref b] s = true := fun w hw => hts w (gw_tbl hw)
  refine lv_aload_n hx hb dL_law_1223 rfl (lv_at hl 1 rfl) ?_
  refine kI (rV (q0 := 0) (ci := 7) hx hb hml hown hg hN (hK.sub (tys' := TY cI cJ cZ) [0, 1, 2] rfl) hP hD (p_loops l D cI cJ cZ ad bf F G (MW (ao, .inl (cJ, 1, .inr (.inl g))) am cI cJ cZ cO 0 0 0 0 0 qo F2 G2) hb0) mw_796 mw_797 mw_798 mw_799 mw_110 pdv_X7_loops ⟨Nat.le_of_ble_eq_true rfl, Nat.le_of_ble_eq_true rfl⟩ rfl rfl rfl hl.1 rfl (Nat.le_of_ble_eq_true rfl) dL_law_1224 ⟨Nat.le_of_ble_eq_true rfl, Nat.le_of_ble_eq_true rfl⟩) hD hS hA (fun r_1 u_1 H locs hp hP hD hS => ?_)
  obtain ⟨rfl, n9, b9, F9, G9, rfl⟩ := hp
  have hP : va_P D vwCl (MW (ao, .inl (cJ, 1, .inr (.inl g))) am cI cJ cZ cO 0 0 0 0 0 qo F2 G2) H := appRP hP
  have hD : va_D A (MW (ao, .inl (cJ, 1, .inr (.inl g))) am cI cJ cZ cO 0 0 0 0 0 qo F2 G2) := appRD hD
  refine lv_aload_n hx hb dL_law_1227 rfl (lv_at hl 2 rfl) ?_
  refine kI (rV (q0 := 1) (ci := 8) hx hb hml hown hg hN hK hP hD (q_loops l D cI cJ cZ cO (ao, .inl (cJ, 1, .inr (.inl g))) am qo F2 G2 ) mw_800 mw_801 mw_802 mw_803 mw_348 pdv_X8_loops ⟨Nat.le_of_ble_eq_true rfl, Nat.le_of_ble_eq_true rfl⟩ rfl rfl rfl hl.1 rfl (Nat.le_of_ble_eq_true rfl) dL_law_1228 ⟨Nat.le_of_ble_eq_true rfl, Nat.le_of_ble_eq_true rfl⟩) hD hS hA (fun r_2 u_2 H locs hp hP hD hS => ?_)
  obtain ⟨rfl, mn9, ld9, sw9, sm9, qo9, F9m, G9m, rfl⟩ := hp
  refine lv_icmp_eq (tgt := 2279) hx hb dL_law_1231 (by decide) (fun c_1231 => ?_) (fun c_1231 => absurd (by decide) c_1231)
  exact lc_end C0 hAl hbA hS (lv_sub hl [0, 4] rfl) (Nat.le_of_ble_eq_true rfl) (Nat.le_of_ble_eq_true rfl)
set_option maxHeartbeats 4000000 in
set_option maxRecDepth 100000 in
theorem lc_19 {p : Program} {l : Launch} {e : Env} {s : State} {m : MethodId} {below : List Frame} {meth : Method} {c : Code} {b : Nat} {xs : Nat → Int32} {A : Nat → Prop} {H : Heap} {locs : List Loc} {ls : Array Slot} (hfl : l.stackTraces = false) (D : va_G) (cI cJ cZ cO : ClassId) (ad : Nat → Nat) (bf : Nat → Int32) (hb0 : ∀ k, bf k = 0) (F : Nat → Nat → Int32) (G : Nat → Nat → Int64) (ao : Nat) (g : Nat → Int64) (am : Nat → Nat) (qo : Nat) (F2 : Nat → Nat → Int32) (G2 : Nat → Nat → Int64) (C0 : lw_At p s m meth c b 4 xs) (hN : NW s) (hST : ST A s) (hSR : SR s) (hK : va_K D vwCl (TO cI cJ cZ cO) s) (hA : ∀ q, s.heap.size ≤ q → A q) (hAl : ∀ q, A q → s.heap.size ≤ q) (hbA : ¬ A b) (hP : va_P D vwCl (XW ad cI cJ 0 bf F G ++ MW (ao, .inl (cJ, 1, .inr (.inl g))) am cI cJ cZ cO 0 0 0 0 0 qo F2 G2) H) (hD : va_D A (XW ad cI cJ 0 bf F G ++ MW (ao, .inl (cJ, 1, .inr (.inl g))) am cI cJ cZ cO 0 0 0 0 0 qo F2 G2)) (hS : va_S A s.heap H locs) (hl : lv_has ls 9 [(0, .ref b), (1, .ref (ad 0)), (2, .ref (am 1)), (3, .ref ao), (4, .int 0)]) : W p l e room_1 s m #[Value.ref b] below meth c H locs 67 9542 (lw_Z below #[Value.ref b] s) (F0 m 1236 ls []) := by
  obtain ⟨hx, hb, hr, hml, hown, hts, hX, hbl, hlocks, hgv⟩ := id C0
  have hg : ∀ w ∈ GW, w.before #[Value.ref b] s = true := fun w hw => hts w (gw_tbl hw)
  refine lv_aload_n hx hb dL_law_1236 rfl (lv_at hl 1 rfl) ?_
  refine lv_aload_n hx hb dL_law_1237 rfl (lv_at hl 0 rfl) ?_
  refine lv_iload hx hb dL_law_1238 (lv_at hl 4 rfl) ?_
  refine lv_iconst (v := 1) hx hb dL_law_1240 (by decide) ?_
  refine lv_iadd hx hb dL_law_1241 ?_
  refine lv_topi (fun v_1 ev_1 => ?_)
  obtain rfl : v_1 = (1 : Int32) := ev_1.trans (by decide)
  refine va_sld hx hb hX hbl hbA hS (i := 1) (by unfold vp_in; decide) dL_law_1242 ?_
  refine lv_aload_n hx hb dL_law_1243 rfl (lv_at hl 3 rfl) ?_
  refine kI (rSW hx hb hml hown hg hN hK hP hD hST hSR hS hA (h_loopSize l hfl D cI cJ cZ cO ad bf F G ao g am qo F2 G2 (xs (1 : Int32).toNatClampNeg)) mw_804 mw_805 mw_806 mw_665 pd_L_loopSize ⟨Nat.le_of_ble_eq_true rfl, Nat.le_of_ble_eq_true rfl⟩ rfl hl.1 rfl (Nat.le_of_ble_eq_true rfl) dL_law_1244 ⟨Nat.le_of_ble_eq_true rfl, Nat.le_of_ble_eq_true rfl⟩) hD hS hA (fun r_2 u_2 H locs hp hP hD hS => ?_)
  obtain ⟨rfl, rfl⟩ := hp
  refine lv_istore (lv' := [(5, .int 1), (0, .ref b), (1, .ref (ad 0)), (2, .ref (am 1)), (3, .ref ao), (4, .int 0)]) hx hb dL_law_1247 hl (by decide) rfl (fun ls hl => ?_)
  refine lv_aload_n hx hb dL_law_1249 rfl (lv_at hl 3 rfl) ?_
  refine lv_aload_n hx hb dL_law_1250 rfl (lv_at hl 1 rfl) ?_
  refine lv_iload hx hb dL_law_1251 (lv_at hl 5 rfl) ?_
  refine lv_iconst (v := 1) hx hb dL_law_1253 (by decide) ?_
  refine lv_iadd hx hb dL_law_1254 ?_
  refine lv_topi (fun v_3 ev_3 => ?_)
  obtain rfl : v_3 = (1 : Int32) := ev_3.trans (by decide)
  refine va_sld hx hb hX hbl hbA hS (i := 1) (by unfold vp_in; decide) dL_law_1255 ?_
  refine kI (rV (q0 := 1) (ci := 8) hx hb hml hown hg hN hK hP hD (q_loopSize l D cI cJ cZ cO (ao, .inl (cJ, 1, .inr (.inl g))) am qo F2 G2 (xs (1 : Int32).toNatClampNeg)) mw_807 mw_808 mw_809 mw_810 mw_348 pdv_X8_loopSize ⟨Nat.le_of_ble_eq_true rfl, Nat.le_of_ble_eq_true rfl⟩ rfl rfl rfl hl.1 rfl (Nat.le_of_ble_eq_true rfl) dL_law_1256 ⟨Nat.le_of_ble_eq_true rfl, Nat.le_of_ble_eq_true rfl⟩) hD hS hA (fun r_4 u_4 H locs hp hP hD hS => ?_)
  obtain ⟨rfl, mn9, ld9, sw9, sm9, qo9, F9m, G9m, rfl⟩ := hp
  refine lv_istore (lv' := [(6, .int 0), (5, .int 1), (0, .ref b), (1, .ref (ad 0)), (2, .ref (am 1)), (3, .ref ao), (4, .int 0)]) hx hb dL_law_1259 hl (by decide) rfl (fun ls hl => ?_)
  refine lv_aload_n hx hb dL_law_1261 rfl (lv_at hl 4 rfl) ?_
  refine kI (rV (q0 := 1) (ci := 8) hx hb hml hown hg hN hK hP hD (m_thrown l D cI cJ cZ cO (ao, .inl (cJ, 1, .inr (.inl g))) am qo9 F9m G9m 1 mn9 ld9 sw9 sm9) mw_670 mw_671 mw_672 mw_673 mw_348 pdv_X8_thrown ⟨Nat.le_of_ble_eq_true rfl, Nat.le_of_ble_eq_true rfl⟩ rfl rfl rfl hl.1 rfl (Nat.le_of_ble_eq_true rfl) dL_law_1262 ⟨Nat.le_of_ble_eq_true rfl, Nat.le_of_ble_eq_true rfl⟩) hD hS hA (fun r_5 u_5 H locs hp hP hD hS => ?_)
  obtain ⟨rfl, rfl⟩ := hp
  refine lv_iload hx hb dL_law_1265 (lv_at hl 1 rfl) ?_
  refine lv_icmp_eq (tgt := 1272) hx hb dL_law_1267 (by decide) (fun c_1267 => ?_) (fun c_1267 => absurd (by decide) c_1267)
  refine lv_iload hx hb dL_law_1272 (lv_at hl 1 rfl) ?_
  refine lv_if_ne (tgt := 1289) hx hb dL_law_1274 (by decide) (fun c_1274 => ?_) (fun c_1274 => absurd c_1274 (by decide))
  refine lv_goto (tgt := 2279) hx hb dL_law_1289 (by decide) ?_
  exact lc_end C0 hAl hbA hS (lv_sub hl [2, 6] rfl) (Nat.le_of_ble_eq_true rfl) (Nat.le_of_ble_eq_true rfl)
set_option maxHeartbeats 4000000 in
set_option maxRecDepth 100000 in
theorem lc_20 {p : Program} {l : Launch} {e : Env} {s : State} {m : MethodId} {below : List Frame} {meth : Method} {c : Code} {b : Nat} {xs : Nat → Int32} {A : Nat → Prop} {H : Heap} {locs : List Loc} {ls : Array Slot} (hfl : l.stackTraces = false) (D : va_G) (cI cJ cZ cO : ClassId) (ad : Nat → Nat) (bf : Nat → Int32) (hb0 : ∀ k, bf k = 0) (F : Nat → Nat → Int32) (G : Nat → Nat → Int64) (ao : Nat) (g : Nat → Int64) (am : Nat → Nat) (qo : Nat) (F2 : Nat → Nat → Int32) (G2 : Nat → Nat → Int64) (C0 : lw_At p s m meth c b 4 xs) (hN : NW s) (hST : ST A s) (hSR : SR s) (hK : va_K D vwCl (TO cI cJ cZ cO) s) (hA : ∀ q, s.heap.size ≤ q → A q) (hAl : ∀ q, A q → s.heap.size ≤ q) (hbA : ¬ A b) (hP : va_P D vwCl (XW ad cI cJ 0 bf F G ++ MW (ao, .inl (cJ, 1, .inr (.inl g))) am cI cJ cZ cO 0 0 0 0 0 qo F2 G2) H) (hD : va_D A (XW ad cI cJ 0 bf F G ++ MW (ao, .inl (cJ, 1, .inr (.inl g))) am cI cJ cZ cO 0 0 0 0 0 qo F2 G2)) (hS : va_S A s.heap H locs) (hl : lv_has ls 9 [(0, .ref b), (1, .ref (ad 0)), (2, .ref (am 1)), (3, .ref ao), (4, .int 0)]) : W p l e room_1 s m #[Value.ref b] below meth c H locs 67 9542 (lw_Z below #[Value.ref b] s) (F0 m 1292 ls []) := by
  obtain ⟨hx, hb, hr, hml, hown, hts, hX, hbl, hlocks, hgv⟩ := id C0
  have hg : ∀ w ∈ GW, w.before #[Value.ref b] s = true := fun w hw => hts w (gw_tbl hw)
  refine lv_aload_n hx hb dL_law_1292 rfl (lv_at hl 1 rfl) ?_
  refine lv_aload_n hx hb dL_law_1293 rfl (lv_at hl 0 rfl) ?_
  refine lv_iload hx hb dL_law_1294 (lv_at hl 4 rfl) ?_
  refine lv_iconst (v := 1) hx hb dL_law_1296 (by decide) ?_
  refine lv_iadd hx hb dL_law_1297 ?_
  refine lv_topi (fun v_1 ev_1 => ?_)
  obtain rfl : v_1 = (1 : Int32) := ev_1.trans (by decide)
  refine va_sld hx hb hX hbl hbA hS (i := 1) (by unfold vp_in; decide) dL_law_1298 ?_
  refine lv_aload_n hx hb dL_law_1299 rfl (lv_at hl 3 rfl) ?_
  refine kI (rSW hx hb hml hown hg hN hK hP hD hST hSR hS hA (h_depthOf l hfl D cI cJ cZ cO ad bf F G ao g am qo F2 G2 (xs (1 : Int32).toNatClampNeg)) mw_811 mw_812 mw_813 mw_665 pd_L_depthOf ⟨Nat.le_of_ble_eq_true rfl, Nat.le_of_ble_eq_true rfl⟩ rfl hl.1 rfl (Nat.le_of_ble_eq_true rfl) dL_law_1300 ⟨Nat.le_of_ble_eq_true rfl, Nat.le_of_ble_eq_true rfl⟩) hD hS hA (fun r_2 u_2 H locs hp hP hD hS => ?_)
  obtain ⟨rfl, rfl⟩ := hp
  refine lv_istore (lv' := [(5, .int 1), (0, .ref b), (1, .ref (ad 0)), (2, .ref (am 1)), (3, .ref ao), (4, .int 0)]) hx hb dL_law_1303 hl (by decide) rfl (fun ls hl => ?_)
  refine lv_aload_n hx hb dL_law_1305 rfl (lv_at hl 3 rfl) ?_
  refine lv_aload_n hx hb dL_law_1306 rfl (lv_at hl 1 rfl) ?_
  refine lv_iload hx hb dL_law_1307 (lv_at hl 5 rfl) ?_
  refine lv_iconst (v := 1) hx hb dL_law_1309 (by decide) ?_
  refine lv_iadd hx hb dL_law_1310 ?_
  refine lv_topi (fun v_3 ev_3 => ?_)
  obtain rfl : v_3 = (1 : Int32) := ev_3.trans (by decide)
  refine va_sld hx hb hX hbl hbA hS (i := 1) (by unfold vp_in; decide) dL_law_1311 ?_
  refine kI (rV (q0 := 1) (ci := 8) hx hb hml hown hg hN hK hP hD (q_depthOf l D cI cJ cZ cO (ao, .inl (cJ, 1, .inr (.inl g))) am qo F2 G2 (xs (1 : Int32).toNatClampNeg)) mw_814 mw_815 mw_816 mw_817 mw_348 pdv_X8_depthOf ⟨Nat.le_of_ble_eq_true rfl, Nat.le_of_ble_eq_true rfl⟩ rfl rfl rfl hl.1 rfl (Nat.le_of_ble_eq_true rfl) dL_law_1312 ⟨Nat.le_of_ble_eq_true rfl, Nat.le_of_ble_eq_true rfl⟩) hD hS hA (fun r_4 u_4 H locs hp hP hD hS => ?_)
  obtain ⟨rfl, mn9, ld9, sw9, sm9, qo9, F9m, G9m, rfl⟩ := hp
  refine lv_istore (lv' := [(6, .int 0), (5, .int 1), (0, .ref b), (1, .ref (ad 0)), (2, .ref (am 1)), (3, .ref ao), (4, .int 0)]) hx hb dL_law_1315 hl (by decide) rfl (fun ls hl => ?_)
  refine lv_aload_n hx hb dL_law_1317 rfl (lv_at hl 4 rfl) ?_
  refine kI (rV (q0 := 1) (ci := 8) hx hb hml hown hg hN hK hP hD (m_thrown l D cI cJ cZ cO (ao, .inl (cJ, 1, .inr (.inl g))) am qo9 F9m G9m 1 mn9 ld9 sw9 sm9) mw_670 mw_671 mw_672 mw_673 mw_348 pdv_X8_thrown ⟨Nat.le_of_ble_eq_true rfl, Nat.le_of_ble_eq_true rfl⟩ rfl rfl rfl hl.1 rfl (Nat.le_of_ble_eq_true rfl) dL_law_1318 ⟨Nat.le_of_ble_eq_true rfl, Nat.le_of_ble_eq_true rfl⟩) hD hS hA (fun r_5 u_5 H locs hp hP hD hS => ?_)
  obtain ⟨rfl, rfl⟩ := hp
  refine lv_iload hx hb dL_law_1321 (lv_at hl 1 rfl) ?_
  refine lv_icmp_eq (tgt := 1328) hx hb dL_law_1323 (by decide) (fun c_1323 => ?_) (fun c_1323 => absurd (by decide) c_1323)
  refine lv_iload hx hb dL_law_1328 (lv_at hl 1 rfl) ?_
  refine lv_if_ne (tgt := 1345) hx hb dL_law_1330 (by decide) (fun c_1330 => ?_) (fun c_1330 => absurd c_1330 (by decide))
  refine lv_goto (tgt := 2279) hx hb dL_law_1345 (by decide) ?_
  exact lc_end C0 hAl hbA hS (lv_sub hl [2, 6] rfl) (Nat.le_of_ble_eq_true rfl) (Nat.le_of_ble_eq_true rfl)
set_option maxHeartbeats 4000000 in
set_option maxRecDepth 100000 in
theorem lc_21 {p : Program} {l : Launch} {e : Env} {s : State} {m : MethodId} {below : List Frame} {meth : Method} {c : Code} {b : Nat} {xs : Nat → Int32} {A : Nat → Prop} {H : Heap} {locs : List Loc} {ls : Array Slot} (hfl : l.stackTraces = false) (D : va_G) (cI cJ cZ cO : ClassId) (ad : Nat → Nat) (bf : Nat → Int32) (hb0 : ∀ k, bf k = 0) (F : Nat → Nat → Int32) (G : Nat → Nat → Int64) (ao : Nat) (g : Nat → Int64) (am : Nat → Nat) (qo : Nat) (F2 : Nat → Nat → Int32) (G2 : Nat → Nat → Int64) (C0 : lw_At p s m meth c b 4 xs) (hN : NW s) (hST : ST A s) (hSR : SR s) (hK : va_K D vwCl (TO cI cJ cZ cO) s) (hA : ∀ q, s.heap.size ≤ q → A q) (hAl : ∀ q, A q → s.heap.size ≤ q) (hbA : ¬ A b) (hP : va_P D vwCl (XW ad cI cJ 0 bf F G ++ MW (ao, .inl (cJ, 1, .inr (.inl g))) am cI cJ cZ cO 0 0 0 0 0 qo F2 G2) H) (hD : va_D A (XW ad cI cJ 0 bf F G ++ MW (ao, .inl (cJ, 1, .inr (.inl g))) am cI cJ cZ cO 0 0 0 0 0 qo F2 G2)) (hS : va_S A s.heap H locs) (hl : lv_has ls 9 [(0, .ref b), (1, .ref (ad 0)), (2, .ref (am 1)), (3, .ref ao), (4, .int 0)]) : W p l e room_1 s m #[Value.ref b] below meth c H locs 67 9542 (lw_Z below #[Value.ref b] s) (F0 m 1348 ls []) := by
  obtain ⟨hx, hb, hr, hml, hown, hts, hX, hbl, hlocks, hgv⟩ := id C0
  have hg : ∀ w ∈ GW, w.before #[Value.ref b] s = true := fun w hw => hts w (gw_tbl hw)
  refine lv_aload_n hx hb dL_law_1348 rfl (lv_at hl 1 rfl) ?_
  refine kI (rV (q0 := 0) (ci := 7) hx hb hml hown hg hN (hK.sub (tys' := TY cI cJ cZ) [0, 1, 2] rfl) hP hD (p_isTame l D cI cJ cZ ad bf F G (MW (ao, .inl (cJ, 1, .inr (.inl g))) am cI cJ cZ cO 0 0 0 0 0 qo F2 G2) hb0) mw_818 mw_819 mw_820 mw_821 mw_110 pdv_X7_isTame ⟨Nat.le_of_ble_eq_true rfl, Nat.le_of_ble_eq_true rfl⟩ rfl rfl rfl hl.1 rfl (Nat.le_of_ble_eq_true rfl) dL_law_1349 ⟨Nat.le_of_ble_eq_true rfl, Nat.le_of_ble_eq_true rfl⟩) hD hS hA (fun r_1 u_1 H locs hp hP hD hS => ?_)
  obtain ⟨rfl, n9, b9, F9, G9, rfl⟩ := hp
  have hP : va_P D vwCl (MW (ao, .inl (cJ, 1, .inr (.inl g))) am cI cJ cZ cO 0 0 0 0 0 qo F2 G2) H := appRP hP
  have hD : va_D A (MW (ao, .inl (cJ, 1, .inr (.inl g))) am cI cJ cZ cO 0 0 0 0 0 qo F2 G2) := appRD hD
  refine lv_aload_n hx hb dL_law_1352 rfl (lv_at hl 2 rfl) ?_
  refine kI (rV (q0 := 1) (ci := 8) hx hb hml hown hg hN hK hP hD (q_isTame l D cI cJ cZ cO (ao, .inl (cJ, 1, .inr (.inl g))) am qo F2 G2 ) mw_822 mw_823 mw_824 mw_825 mw_348 pdv_X8_isTame ⟨Nat.le_of_ble_eq_true rfl, Nat.le_of_ble_eq_true rfl⟩ rfl rfl rfl hl.1 rfl (Nat.le_of_ble_eq_true rfl) dL_law_1353 ⟨Nat.le_of_ble_eq_true rfl, Nat.le_of_ble_eq_true rfl⟩) hD hS hA (fun r_2 u_2 H locs hp hP hD hS => ?_)
  obtain ⟨rfl, mn9, ld9, sw9, sm9, qo9, F9m, G9m, rfl⟩ := hp
  refine lv_icmp_eq (tgt := 2279) hx hb dL_law_1356 (by decide) (fun c_1356 => ?_) (fun c_1356 => absurd (by decide) c_1356)
  exact lc_end C0 hAl hbA hS (lv_sub hl [0, 4] rfl) (Nat.le_of_ble_eq_true rfl) (Nat.le_of_ble_eq_true rfl)
set_option maxHeartbeats 4000000 in
set_option maxRecDepth 100000 in
theorem lc_22 {p : Program} {l : Launch} {e : Env} {s : State} {m : MethodId} {below : List Frame} {meth : Method} {c : Code} {b : Nat} {xs : Nat → Int32} {A : Nat → Prop} {H : Heap} {locs : List Loc} {ls : Array Slot} (hfl : l.stackTraces = false) (D : va_G) (cI cJ cZ cO : ClassId) (ad : Nat → Nat) (bf : Nat → Int32) (hb0 : ∀ k, bf k = 0) (F : Nat → Nat → Int32) (G : Nat → Nat → Int64) (ao : Nat) (g : Nat → Int64) (am : Nat → Nat) (qo : Nat) (F2 : Nat → Nat → Int32) (G2 : Nat → Nat → Int64) (C0 : lw_At p s m meth c b 4 xs) (hN : NW s) (hST : ST A s) (hSR : SR s) (hK : va_K D vwCl (TO cI cJ cZ cO) s) (hA : ∀ q, s.heap.size ≤ q → A q) (hAl : ∀ q, A q → s.heap.size ≤ q) (hbA : ¬ A b) (hP : va_P D vwCl (XW ad cI cJ 0 bf F G ++ MW (ao, .inl (cJ, 1, .inr (.inl g))) am cI cJ cZ cO 0 0 0 0 0 qo F2 G2) H) (hD : va_D A (XW ad cI cJ 0 bf F G ++ MW (ao, .inl (cJ, 1, .inr (.inl g))) am cI cJ cZ cO 0 0 0 0 0 qo F2 G2)) (hS : va_S A s.heap H locs) (hl : lv_has ls 9 [(0, .ref b), (1, .ref (ad 0)), (2, .ref (am 1)), (3, .ref ao), (4, .int 0)]) : W p l e room_1 s m #[Value.ref b] below meth c H locs 67 9542 (lw_Z below #[Value.ref b] s) (F0 m 1361 ls []) := by
  obtain ⟨hx, hb, hr, hml, hown, hts, hX, hbl, hlocks, hgv⟩ := id C0
  have hg : ∀ w ∈ GW, w.before #[Value.ref b] s = true := fun w hw => hts w (gw_tbl hw)
  refine lv_aload_n hx hb dL_law_1361 rfl (lv_at hl 1 rfl) ?_
  refine lv_aload_n hx hb dL_law_1362 rfl (lv_at hl 0 rfl) ?_
  refine lv_iload hx hb dL_law_1363 (lv_at hl 4 rfl) ?_
  refine lv_iconst (v := 1) hx hb dL_law_1365 (by decide) ?_
  refine lv_iadd hx hb dL_law_1366 ?_
  refine lv_topi (fun v_1 ev_1 => ?_)
  obtain rfl : v_1 = (1 : Int32) := ev_1.trans (by decide)
  refine va_sld hx hb hX hbl hbA hS (i := 1) (by unfold vp_in; decide) dL_law_1367 ?_
  refine lv_aload_n hx hb dL_law_1368 rfl (lv_at hl 3 rfl) ?_
  refine kI (rSW hx hb hml hown hg hN hK hP hD hST hSR hS hA (h_liveIn l hfl D cI cJ cZ cO ad bf F G ao g am qo F2 G2 (xs (1 : Int32).toNatClampNeg)) mw_826 mw_827 mw_828 mw_665 pd_L_liveIn ⟨Nat.le_of_ble_eq_true rfl, Nat.le_of_ble_eq_true rfl⟩ rfl hl.1 rfl (Nat.le_of_ble_eq_true rfl) dL_law_1369 ⟨Nat.le_of_ble_eq_true rfl, Nat.le_of_ble_eq_true rfl⟩) hD hS hA (fun r_2 u_2 H locs hp hP hD hS => ?_)
  obtain ⟨rfl, rfl⟩ := hp
  refine lv_istore (lv' := [(5, .int 1), (0, .ref b), (1, .ref (ad 0)), (2, .ref (am 1)), (3, .ref ao), (4, .int 0)]) hx hb dL_law_1372 hl (by decide) rfl (fun ls hl => ?_)
  refine lv_aload_n hx hb dL_law_1374 rfl (lv_at hl 3 rfl) ?_
  refine lv_aload_n hx hb dL_law_1375 rfl (lv_at hl 1 rfl) ?_
  refine lv_iload hx hb dL_law_1376 (lv_at hl 5 rfl) ?_
  refine lv_iconst (v := 1) hx hb dL_law_1378 (by decide) ?_
  refine lv_iadd hx hb dL_law_1379 ?_
  refine lv_topi (fun v_3 ev_3 => ?_)
  obtain rfl : v_3 = (1 : Int32) := ev_3.trans (by decide)
  refine va_sld hx hb hX hbl hbA hS (i := 1) (by unfold vp_in; decide) dL_law_1380 ?_
  refine kI (rV (q0 := 1) (ci := 8) hx hb hml hown hg hN hK hP hD (q_liveIn l D cI cJ cZ cO (ao, .inl (cJ, 1, .inr (.inl g))) am qo F2 G2 (xs (1 : Int32).toNatClampNeg)) mw_829 mw_830 mw_831 mw_832 mw_348 pdv_X8_liveIn ⟨Nat.le_of_ble_eq_true rfl, Nat.le_of_ble_eq_true rfl⟩ rfl rfl rfl hl.1 rfl (Nat.le_of_ble_eq_true rfl) dL_law_1381 ⟨Nat.le_of_ble_eq_true rfl, Nat.le_of_ble_eq_true rfl⟩) hD hS hA (fun r_4 u_4 H locs hp hP hD hS => ?_)
  obtain ⟨rfl, mn9, ld9, sw9, sm9, qo9, F9m, G9m, rfl⟩ := hp
  refine lv_istore (lv' := [(6, .int 0), (5, .int 1), (0, .ref b), (1, .ref (ad 0)), (2, .ref (am 1)), (3, .ref ao), (4, .int 0)]) hx hb dL_law_1384 hl (by decide) rfl (fun ls hl => ?_)
  refine lv_aload_n hx hb dL_law_1386 rfl (lv_at hl 4 rfl) ?_
  refine kI (rV (q0 := 1) (ci := 8) hx hb hml hown hg hN hK hP hD (m_thrown l D cI cJ cZ cO (ao, .inl (cJ, 1, .inr (.inl g))) am qo9 F9m G9m 1 mn9 ld9 sw9 sm9) mw_670 mw_671 mw_672 mw_673 mw_348 pdv_X8_thrown ⟨Nat.le_of_ble_eq_true rfl, Nat.le_of_ble_eq_true rfl⟩ rfl rfl rfl hl.1 rfl (Nat.le_of_ble_eq_true rfl) dL_law_1387 ⟨Nat.le_of_ble_eq_true rfl, Nat.le_of_ble_eq_true rfl⟩) hD hS hA (fun r_5 u_5 H locs hp hP hD hS => ?_)
  obtain ⟨rfl, rfl⟩ := hp
  refine lv_iload hx hb dL_law_1390 (lv_at hl 1 rfl) ?_
  refine lv_icmp_eq (tgt := 1397) hx hb dL_law_1392 (by decide) (fun c_1392 => ?_) (fun c_1392 => absurd (by decide) c_1392)
  refine lv_iload hx hb dL_law_1397 (lv_at hl 1 rfl) ?_
  refine lv_if_ne (tgt := 1414) hx hb dL_law_1399 (by decide) (fun c_1399 => ?_) (fun c_1399 => absurd c_1399 (by decide))
  refine lv_goto (tgt := 2279) hx hb dL_law_1414 (by decide) ?_
  exact lc_end C0 hAl hbA hS (lv_sub hl [2, 6] rfl) (Nat.le_of_ble_eq_true rfl) (Nat.le_of_ble_eq_true rfl)
set_option maxHeartbeats 4000000 in
set_option maxRecDepth 100000 in
theorem lc_23 {p : Program} {l : Launch} {e : Env} {s : State} {m : MethodId} {below : List Frame} {meth : Method} {c : Code} {b : Nat} {xs : Nat → Int32} {A : Nat → Prop} {H : Heap} {locs : List Loc} {ls : Array Slot} (hfl : l.stackTraces = false) (D : va_G) (cI cJ cZ cO : ClassId) (ad : Nat → Nat) (bf : Nat → Int32) (hb0 : ∀ k, bf k = 0) (F : Nat → Nat → Int32) (G : Nat → Nat → Int64) (ao : Nat) (g : Nat → Int64) (am : Nat → Nat) (qo : Nat) (F2 : Nat → Nat → Int32) (G2 : Nat → Nat → Int64) (C0 : lw_At p s m meth c b 4 xs) (hN : NW s) (hST : ST A s) (hSR : SR s) (hK : va_K D vwCl (TO cI cJ cZ cO) s) (hA : ∀ q, s.heap.size ≤ q → A q) (hAl : ∀ q, A q → s.heap.size ≤ q) (hbA : ¬ A b) (hP : va_P D vwCl (XW ad cI cJ 0 bf F G ++ MW (ao, .inl (cJ, 1, .inr (.inl g))) am cI cJ cZ cO 0 0 0 0 0 qo F2 G2) H) (hD : va_D A (XW ad cI cJ 0 bf F G ++ MW (ao, .inl (cJ, 1, .inr (.inl g))) am cI cJ cZ cO 0 0 0 0 0 qo F2 G2)) (hS : va_S A s.heap H locs) (hl : lv_has ls 9 [(0, .ref b), (1, .ref (ad 0)), (2, .ref (am 1)), (3, .ref ao), (4, .int 0)]) : W p l e room_1 s m #[Value.ref b] below meth c H locs 67 9542 (lw_Z below #[Value.ref b] s) (F0 m 1417 ls []) := by
  obtain ⟨hx, hb, hr, hml, hown, hts, hX, hbl, hlocks, hgv⟩ := id C0
  have hg : ∀ w ∈ GW, w.before #[Value.ref b] s = true := fun w hw => hts w (gw_tbl hw)
  refine lv_aload_n hx hb dL_law_1417 rfl (lv_at hl 1 rfl) ?_
  refine kI (rV (q0 := 0) (ci := 7) hx hb hml hown hg hN (hK.sub (tys' := TY cI cJ cZ) [0, 1, 2] rfl) hP hD (p_vain l D cI cJ cZ ad bf F G (MW (ao, .inl (cJ, 1, .inr (.inl g))) am cI cJ cZ cO 0 0 0 0 0 qo F2 G2) hb0) mw_833 mw_834 mw_835 mw_836 mw_110 pdv_X7_vain ⟨Nat.le_of_ble_eq_true rfl, Nat.le_of_ble_eq_true rfl⟩ rfl rfl rfl hl.1 rfl (Nat.le_of_ble_eq_true rfl) dL_law_1418 ⟨Nat.le_of_ble_eq_true rfl, Nat.le_of_ble_eq_true rfl⟩) hD hS hA (fun r_1 u_1 H locs hp hP hD hS => ?_)
  obtain ⟨rfl, n9, b9, F9, G9, rfl⟩ := hp
  have hP : va_P D vwCl (MW (ao, .inl (cJ, 1, .inr (.inl g))) am cI cJ cZ cO 0 0 0 0 0 qo F2 G2) H := appRP hP
  have hD : va_D A (MW (ao, .inl (cJ, 1, .inr (.inl g))) am cI cJ cZ cO 0 0 0 0 0 qo F2 G2) := appRD hD
  refine lv_aload_n hx hb dL_law_1421 rfl (lv_at hl 2 rfl) ?_
  refine kI (rV (q0 := 1) (ci := 8) hx hb hml hown hg hN hK hP hD (q_vain l D cI cJ cZ cO (ao, .inl (cJ, 1, .inr (.inl g))) am qo F2 G2 ) mw_837 mw_838 mw_839 mw_840 mw_348 pdv_X8_vain ⟨Nat.le_of_ble_eq_true rfl, Nat.le_of_ble_eq_true rfl⟩ rfl rfl rfl hl.1 rfl (Nat.le_of_ble_eq_true rfl) dL_law_1422 ⟨Nat.le_of_ble_eq_true rfl, Nat.le_of_ble_eq_true rfl⟩) hD hS hA (fun r_2 u_2 H locs hp hP hD hS => ?_)
  obtain ⟨rfl, mn9, ld9, sw9, sm9, qo9, F9m, G9m, rfl⟩ := hp
  refine lv_icmp_eq (tgt := 2279) hx hb dL_law_1425 (by decide) (fun c_1425 => ?_) (fun c_1425 => absurd (by decide) c_1425)
  exact lc_end C0 hAl hbA hS (lv_sub hl [0, 4] rfl) (Nat.le_of_ble_eq_true rfl) (Nat.le_of_ble_eq_true rfl)
set_option maxHeartbeats 4000000 in
set_option maxRecDepth 100000 in
theorem lc_24 {p : Program} {l : Launch} {e : Env} {s : State} {m : MethodId} {below : List Frame} {meth : Method} {c : Code} {b : Nat} {xs : Nat → Int32} {A : Nat → Prop} {H : Heap} {locs : List Loc} {ls : Array Slot} (hfl : l.stackTraces = false) (D : va_G) (cI cJ cZ cO : ClassId) (ad : Nat → Nat) (bf : Nat → Int32) (hb0 : ∀ k, bf k = 0) (F : Nat → Nat → Int32) (G : Nat → Nat → Int64) (ao : Nat) (g : Nat → Int64) (am : Nat → Nat) (qo : Nat) (F2 : Nat → Nat → Int32) (G2 : Nat → Nat → Int64) (C0 : lw_At p s m meth c b 4 xs) (hN : NW s) (hST : ST A s) (hSR : SR s) (hK : va_K D vwCl (TO cI cJ cZ cO) s) (hA : ∀ q, s.heap.size ≤ q → A q) (hAl : ∀ q, A q → s.heap.size ≤ q) (hbA : ¬ A b) (hP : va_P D vwCl (XW ad cI cJ 0 bf F G ++ MW (ao, .inl (cJ, 1, .inr (.inl g))) am cI cJ cZ cO 0 0 0 0 0 qo F2 G2) H) (hD : va_D A (XW ad cI cJ 0 bf F G ++ MW (ao, .inl (cJ, 1, .inr (.inl g))) am cI cJ cZ cO 0 0 0 0 0 qo F2 G2)) (hS : va_S A s.heap H locs) (hl : lv_has ls 9 [(0, .ref b), (1, .ref (ad 0)), (2, .ref (am 1)), (3, .ref ao), (4, .int 0)]) : W p l e room_1 s m #[Value.ref b] below meth c H locs 67 9542 (lw_Z below #[Value.ref b] s) (F0 m 1430 ls []) := by
  obtain ⟨hx, hb, hr, hml, hown, hts, hX, hbl, hlocks, hgv⟩ := id C0
  have hg : ∀ w ∈ GW, w.before #[Value.ref b] s = true := fun w hw => hts w (gw_tbl hw)
  refine lv_aload_n hx hb dL_law_1430 rfl (lv_at hl 1 rfl) ?_
  refine kI (rV (q0 := 0) (ci := 7) hx hb hml hown hg hN (hK.sub (tys' := TY cI cJ cZ) [0, 1, 2] rfl) hP hD (p_windings l D cI cJ cZ ad bf F G (MW (ao, .inl (cJ, 1, .inr (.inl g))) am cI cJ cZ cO 0 0 0 0 0 qo F2 G2) hb0) mw_841 mw_842 mw_843 mw_844 mw_110 pdv_X7_windings ⟨Nat.le_of_ble_eq_true rfl, Nat.le_of_ble_eq_true rfl⟩ rfl rfl rfl hl.1 rfl (Nat.le_of_ble_eq_true rfl) dL_law_1431 ⟨Nat.le_of_ble_eq_true rfl, Nat.le_of_ble_eq_true rfl⟩) hD hS hA (fun r_1 u_1 H locs hp hP hD hS => ?_)
  obtain ⟨rfl, n9, b9, F9, G9, rfl⟩ := hp
  have hP : va_P D vwCl (MW (ao, .inl (cJ, 1, .inr (.inl g))) am cI cJ cZ cO 0 0 0 0 0 qo F2 G2) H := appRP hP
  have hD : va_D A (MW (ao, .inl (cJ, 1, .inr (.inl g))) am cI cJ cZ cO 0 0 0 0 0 qo F2 G2) := appRD hD
  refine lv_aload_n hx hb dL_law_1434 rfl (lv_at hl 2 rfl) ?_
  refine kI (rV (q0 := 1) (ci := 8) hx hb hml hown hg hN hK hP hD (q_windings l D cI cJ cZ cO (ao, .inl (cJ, 1, .inr (.inl g))) am qo F2 G2 ) mw_845 mw_846 mw_847 mw_848 mw_348 pdv_X8_windings ⟨Nat.le_of_ble_eq_true rfl, Nat.le_of_ble_eq_true rfl⟩ rfl rfl rfl hl.1 rfl (Nat.le_of_ble_eq_true rfl) dL_law_1435 ⟨Nat.le_of_ble_eq_true rfl, Nat.le_of_ble_eq_true rfl⟩) hD hS hA (fun r_2 u_2 H locs hp hP hD hS => ?_)
  obtain ⟨rfl, mn9, ld9, sw9, sm9, qo9, F9m, G9m, rfl⟩ := hp
  refine lv_icmp_eq (tgt := 2279) hx hb dL_law_1438 (by decide) (fun c_1438 => ?_) (fun c_1438 => absurd (by decide) c_1438)
  exact lc_end C0 hAl hbA hS (lv_sub hl [0, 4] rfl) (Nat.le_of_ble_eq_true rfl) (Nat.le_of_ble_eq_true rfl)
set_option maxHeartbeats 4000000 in
set_option maxRecDepth 100000 in
theorem lc_25 {p : Program} {l : Launch} {e : Env} {s : State} {m : MethodId} {below : List Frame} {meth : Method} {c : Code} {b : Nat} {xs : Nat → Int32} {A : Nat → Prop} {H : Heap} {locs : List Loc} {ls : Array Slot} (hfl : l.stackTraces = false) (D : va_G) (cI cJ cZ cO : ClassId) (ad : Nat → Nat) (bf : Nat → Int32) (hb0 : ∀ k, bf k = 0) (F : Nat → Nat → Int32) (G : Nat → Nat → Int64) (ao : Nat) (g : Nat → Int64) (am : Nat → Nat) (qo : Nat) (F2 : Nat → Nat → Int32) (G2 : Nat → Nat → Int64) (C0 : lw_At p s m meth c b 4 xs) (hN : NW s) (hST : ST A s) (hSR : SR s) (hK : va_K D vwCl (TO cI cJ cZ cO) s) (hA : ∀ q, s.heap.size ≤ q → A q) (hAl : ∀ q, A q → s.heap.size ≤ q) (hbA : ¬ A b) (hP : va_P D vwCl (XW ad cI cJ 0 bf F G ++ MW (ao, .inl (cJ, 1, .inr (.inl g))) am cI cJ cZ cO 0 0 0 0 0 qo F2 G2) H) (hD : va_D A (XW ad cI cJ 0 bf F G ++ MW (ao, .inl (cJ, 1, .inr (.inl g))) am cI cJ cZ cO 0 0 0 0 0 qo F2 G2)) (hS : va_S A s.heap H locs) (hl : lv_has ls 9 [(0, .ref b), (1, .ref (ad 0)), (2, .ref (am 1)), (3, .ref ao), (4, .int 0)]) : W p l e room_1 s m #[Value.ref b] below meth c H locs 67 9542 (lw_Z below #[Value.ref b] s) (F0 m 1443 ls []) := by
  obtain ⟨hx, hb, hr, hml, hown, hts, hX, hbl, hlocks, hgv⟩ := id C0
  have hg : ∀ w ∈ GW, w.before #[Value.ref b] s = true := fun w hw => hts w (gw_tbl hw)
  refine lv_aload_n hx hb dL_law_1443 rfl (lv_at hl 1 rfl) ?_
  refine kI (rV (q0 := 0) (ci := 7) hx hb hml hown hg hN (hK.sub (tys' := TY cI cJ cZ) [0, 1, 2] rfl) hP hD (p_steps l D cI cJ cZ ad bf F G (MW (ao, .inl (cJ, 1, .inr (.inl g))) am cI cJ cZ cO 0 0 0 0 0 qo F2 G2) hb0) mw_849 mw_850 mw_851 mw_852 mw_110 pdv_X7_steps ⟨Nat.le_of_ble_eq_true rfl, Nat.le_of_ble_eq_true rfl⟩ rfl rfl rfl hl.1 rfl (Nat.le_of_ble_eq_true rfl) dL_law_1444 ⟨Nat.le_of_ble_eq_true rfl, Nat.le_of_ble_eq_true rfl⟩) hD hS hA (fun r_1 u_1 H locs hp hP hD hS => ?_)
  obtain ⟨rfl, n9, b9, F9, G9, rfl⟩ := hp
  have hP : va_P D vwCl (MW (ao, .inl (cJ, 1, .inr (.inl g))) am cI cJ cZ cO 0 0 0 0 0 qo F2 G2) H := appRP hP
  have hD : va_D A (MW (ao, .inl (cJ, 1, .inr (.inl g))) am cI cJ cZ cO 0 0 0 0 0 qo F2 G2) := appRD hD
  refine lv_aload_n hx hb dL_law_1447 rfl (lv_at hl 2 rfl) ?_
  refine kI (rV (q0 := 1) (ci := 8) hx hb hml hown hg hN hK hP hD (q_steps l D cI cJ cZ cO (ao, .inl (cJ, 1, .inr (.inl g))) am qo F2 G2 ) mw_853 mw_854 mw_855 mw_856 mw_348 pdv_X8_steps ⟨Nat.le_of_ble_eq_true rfl, Nat.le_of_ble_eq_true rfl⟩ rfl rfl rfl hl.1 rfl (Nat.le_of_ble_eq_true rfl) dL_law_1448 ⟨Nat.le_of_ble_eq_true rfl, Nat.le_of_ble_eq_true rfl⟩) hD hS hA (fun r_2 u_2 H locs hp hP hD hS => ?_)
  obtain ⟨rfl, mn9, ld9, sw9, sm9, qo9, F9m, G9m, rfl⟩ := hp
  refine lv_icmp_eq (tgt := 2279) hx hb dL_law_1451 (by decide) (fun c_1451 => ?_) (fun c_1451 => absurd (by decide) c_1451)
  exact lc_end C0 hAl hbA hS (lv_sub hl [0, 4] rfl) (Nat.le_of_ble_eq_true rfl) (Nat.le_of_ble_eq_true rfl)
set_option maxHeartbeats 4000000 in
set_option maxRecDepth 100000 in
theorem lc_26 {p : Program} {l : Launch} {e : Env} {s : State} {m : MethodId} {below : List Frame} {meth : Method} {c : Code} {b : Nat} {xs : Nat → Int32} {A : Nat → Prop} {H : Heap} {locs : List Loc} {ls : Array Slot} (hfl : l.stackTraces = false) (D : va_G) (cI cJ cZ cO : ClassId) (ad : Nat → Nat) (bf : Nat → Int32) (hb0 : ∀ k, bf k = 0) (F : Nat → Nat → Int32) (G : Nat → Nat → Int64) (ao : Nat) (g : Nat → Int64) (am : Nat → Nat) (qo : Nat) (F2 : Nat → Nat → Int32) (G2 : Nat → Nat → Int64) (C0 : lw_At p s m meth c b 4 xs) (hN : NW s) (hST : ST A s) (hSR : SR s) (hK : va_K D vwCl (TO cI cJ cZ cO) s) (hA : ∀ q, s.heap.size ≤ q → A q) (hAl : ∀ q, A q → s.heap.size ≤ q) (hbA : ¬ A b) (hP : va_P D vwCl (XW ad cI cJ 0 bf F G ++ MW (ao, .inl (cJ, 1, .inr (.inl g))) am cI cJ cZ cO 0 0 0 0 0 qo F2 G2) H) (hD : va_D A (XW ad cI cJ 0 bf F G ++ MW (ao, .inl (cJ, 1, .inr (.inl g))) am cI cJ cZ cO 0 0 0 0 0 qo F2 G2)) (hS : va_S A s.heap H locs) (hl : lv_has ls 9 [(0, .ref b), (1, .ref (ad 0)), (2, .ref (am 1)), (3, .ref ao), (4, .int 0)]) : W p l e room_1 s m #[Value.ref b] below meth c H locs 67 9542 (lw_Z below #[Value.ref b] s) (F0 m 1456 ls []) := by
  obtain ⟨hx, hb, hr, hml, hown, hts, hX, hbl, hlocks, hgv⟩ := id C0
  have hg : ∀ w ∈ GW, w.before #[Value.ref b] s = true := fun w hw => hts w (gw_tbl hw)
  refine lv_aload_n hx hb dL_law_1456 rfl (lv_at hl 1 rfl) ?_
  refine lv_aload_n hx hb dL_law_1457 rfl (lv_at hl 0 rfl) ?_
  refine lv_iload hx hb dL_law_1458 (lv_at hl 4 rfl) ?_
  refine lv_iconst (v := 1) hx hb dL_law_1460 (by decide) ?_
  refine lv_iadd hx hb dL_law_1461 ?_
  refine lv_topi (fun v_1 ev_1 => ?_)
  obtain rfl : v_1 = (1 : Int32) := ev_1.trans (by decide)
  refine va_sld hx hb hX hbl hbA hS (i := 1) (by unfold vp_in; decide) dL_law_1462 ?_
  refine lv_aload_n hx hb dL_law_1463 rfl (lv_at hl 3 rfl) ?_
  refine kI (rSW hx hb hml hown hg hN hK hP hD hST hSR hS hA (h_ruleOf l hfl D cI cJ cZ cO ad bf F G ao g am qo F2 G2 (xs (1 : Int32).toNatClampNeg)) mw_857 mw_858 mw_859 mw_665 pd_L_ruleOf ⟨Nat.le_of_ble_eq_true rfl, Nat.le_of_ble_eq_true rfl⟩ rfl hl.1 rfl (Nat.le_of_ble_eq_true rfl) dL_law_1464 ⟨Nat.le_of_ble_eq_true rfl, Nat.le_of_ble_eq_true rfl⟩) hD hS hA (fun r_2 u_2 H locs hp hP hD hS => ?_)
  obtain ⟨rfl, rfl⟩ := hp
  refine lv_istore (lv' := [(5, .int 1), (0, .ref b), (1, .ref (ad 0)), (2, .ref (am 1)), (3, .ref ao), (4, .int 0)]) hx hb dL_law_1467 hl (by decide) rfl (fun ls hl => ?_)
  refine lv_aload_n hx hb dL_law_1469 rfl (lv_at hl 3 rfl) ?_
  refine lv_aload_n hx hb dL_law_1470 rfl (lv_at hl 1 rfl) ?_
  refine lv_iload hx hb dL_law_1471 (lv_at hl 5 rfl) ?_
  refine lv_iconst (v := 1) hx hb dL_law_1473 (by decide) ?_
  refine lv_iadd hx hb dL_law_1474 ?_
  refine lv_topi (fun v_3 ev_3 => ?_)
  obtain rfl : v_3 = (1 : Int32) := ev_3.trans (by decide)
  refine va_sld hx hb hX hbl hbA hS (i := 1) (by unfold vp_in; decide) dL_law_1475 ?_
  refine kI (rV (q0 := 1) (ci := 8) hx hb hml hown hg hN hK hP hD (q_ruleOf l D cI cJ cZ cO (ao, .inl (cJ, 1, .inr (.inl g))) am qo F2 G2 (xs (1 : Int32).toNatClampNeg)) mw_860 mw_861 mw_862 mw_863 mw_348 pdv_X8_ruleOf ⟨Nat.le_of_ble_eq_true rfl, Nat.le_of_ble_eq_true rfl⟩ rfl rfl rfl hl.1 rfl (Nat.le_of_ble_eq_true rfl) dL_law_1476 ⟨Nat.le_of_ble_eq_true rfl, Nat.le_of_ble_eq_true rfl⟩) hD hS hA (fun r_4 u_4 H locs hp hP hD hS => ?_)
  obtain ⟨rfl, mn9, ld9, sw9, sm9, qo9, F9m, G9m, rfl⟩ := hp
  refine lv_istore (lv' := [(6, .int 0), (5, .int 1), (0, .ref b), (1, .ref (ad 0)), (2, .ref (am 1)), (3, .ref ao), (4, .int 0)]) hx hb dL_law_1479 hl (by decide) rfl (fun ls hl => ?_)
  refine lv_aload_n hx hb dL_law_1481 rfl (lv_at hl 4 rfl) ?_
  refine kI (rV (q0 := 1) (ci := 8) hx hb hml hown hg hN hK hP hD (m_thrown l D cI cJ cZ cO (ao, .inl (cJ, 1, .inr (.inl g))) am qo9 F9m G9m 1 mn9 ld9 sw9 sm9) mw_670 mw_671 mw_672 mw_673 mw_348 pdv_X8_thrown ⟨Nat.le_of_ble_eq_true rfl, Nat.le_of_ble_eq_true rfl⟩ rfl rfl rfl hl.1 rfl (Nat.le_of_ble_eq_true rfl) dL_law_1482 ⟨Nat.le_of_ble_eq_true rfl, Nat.le_of_ble_eq_true rfl⟩) hD hS hA (fun r_5 u_5 H locs hp hP hD hS => ?_)
  obtain ⟨rfl, rfl⟩ := hp
  refine lv_iload hx hb dL_law_1485 (lv_at hl 1 rfl) ?_
  refine lv_icmp_eq (tgt := 1492) hx hb dL_law_1487 (by decide) (fun c_1487 => ?_) (fun c_1487 => absurd (by decide) c_1487)
  refine lv_iload hx hb dL_law_1492 (lv_at hl 1 rfl) ?_
  refine lv_if_ne (tgt := 1509) hx hb dL_law_1494 (by decide) (fun c_1494 => ?_) (fun c_1494 => absurd c_1494 (by decide))
  refine lv_goto (tgt := 2279) hx hb dL_law_1509 (by decide) ?_
  exact lc_end C0 hAl hbA hS (lv_sub hl [2, 6] rfl) (Nat.le_of_ble_eq_true rfl) (Nat.le_of_ble_eq_true rfl)
set_option maxHeartbeats 4000000 in
set_option maxRecDepth 100000 in
theorem lc_27 {p : Program} {l : Launch} {e : Env} {s : State} {m : MethodId} {below : List Frame} {meth : Method} {c : Code} {b : Nat} {xs : Nat → Int32} {A : Nat → Prop} {H : Heap} {locs : List Loc} {ls : Array Slot} (hfl : l.stackTraces = false) (D : va_G) (cI cJ cZ cO : ClassId) (ad : Nat → Nat) (bf : Nat → Int32) (hb0 : ∀ k, bf k = 0) (F : Nat → Nat → Int32) (G : Nat → Nat → Int64) (ao : Nat) (g : Nat → Int64) (am : Nat → Nat) (qo : Nat) (F2 : Nat → Nat → Int32) (G2 : Nat → Nat → Int64) (C0 : lw_At p s m meth c b 4 xs) (hN : NW s) (hST : ST A s) (hSR : SR s) (hK : va_K D vwCl (TO cI cJ cZ cO) s) (hA : ∀ q, s.heap.size ≤ q → A q) (hAl : ∀ q, A q → s.heap.size ≤ q) (hbA : ¬ A b) (hP : va_P D vwCl (XW ad cI cJ 0 bf F G ++ MW (ao, .inl (cJ, 1, .inr (.inl g))) am cI cJ cZ cO 0 0 0 0 0 qo F2 G2) H) (hD : va_D A (XW ad cI cJ 0 bf F G ++ MW (ao, .inl (cJ, 1, .inr (.inl g))) am cI cJ cZ cO 0 0 0 0 0 qo F2 G2)) (hS : va_S A s.heap H locs) (hl : lv_has ls 9 [(0, .ref b), (1, .ref (ad 0)), (2, .ref (am 1)), (3, .ref ao), (4, .int 0)]) : W p l e room_1 s m #[Value.ref b] below meth c H locs 67 9542 (lw_Z below #[Value.ref b] s) (F0 m 1512 ls []) := by
  obtain ⟨hx, hb, hr, hml, hown, hts, hX, hbl, hlocks, hgv⟩ := id C0
  have hg : ∀ w ∈ GW, w.before #[Value.ref b] s = true := fun w hw => hts w (gw_tbl hw)
  refine lv_aload_n hx hb dL_law_1512 rfl (lv_at hl 1 rfl) ?_
  refine lv_aload_n hx hb dL_law_1513 rfl (lv_at hl 0 rfl) ?_
  refine lv_iload hx hb dL_law_1514 (lv_at hl 4 rfl) ?_
  refine lv_iconst (v := 1) hx hb dL_law_1516 (by decide) ?_
  refine lv_iadd hx hb dL_law_1517 ?_
  refine lv_topi (fun v_1 ev_1 => ?_)
  obtain rfl : v_1 = (1 : Int32) := ev_1.trans (by decide)
  refine va_sld hx hb hX hbl hbA hS (i := 1) (by unfold vp_in; decide) dL_law_1518 ?_
  refine lv_aload_n hx hb dL_law_1519 rfl (lv_at hl 3 rfl) ?_
  refine kI (rSW hx hb hml hown hg hN hK hP hD hST hSR hS hA (h_nodeOf l hfl D cI cJ cZ cO ad bf F G ao g am qo F2 G2 (xs (1 : Int32).toNatClampNeg)) mw_864 mw_865 mw_866 mw_665 pd_L_nodeOf ⟨Nat.le_of_ble_eq_true rfl, Nat.le_of_ble_eq_true rfl⟩ rfl hl.1 rfl (Nat.le_of_ble_eq_true rfl) dL_law_1520 ⟨Nat.le_of_ble_eq_true rfl, Nat.le_of_ble_eq_true rfl⟩) hD hS hA (fun r_2 u_2 H locs hp hP hD hS => ?_)
  obtain ⟨rfl, rfl⟩ := hp
  refine lv_istore (lv' := [(5, .int 1), (0, .ref b), (1, .ref (ad 0)), (2, .ref (am 1)), (3, .ref ao), (4, .int 0)]) hx hb dL_law_1523 hl (by decide) rfl (fun ls hl => ?_)
  refine lv_aload_n hx hb dL_law_1525 rfl (lv_at hl 3 rfl) ?_
  refine lv_aload_n hx hb dL_law_1526 rfl (lv_at hl 1 rfl) ?_
  refine lv_iload hx hb dL_law_1527 (lv_at hl 5 rfl) ?_
  refine lv_iconst (v := 1) hx hb dL_law_1529 (by decide) ?_
  refine lv_iadd hx hb dL_law_1530 ?_
  refine lv_topi (fun v_3 ev_3 => ?_)
  obtain rfl : v_3 = (1 : Int32) := ev_3.trans (by decide)
  refine va_sld hx hb hX hbl hbA hS (i := 1) (by unfold vp_in; decide) dL_law_1531 ?_
  refine kI (rV (q0 := 1) (ci := 8) hx hb hml hown hg hN hK hP hD (q_nodeOf l D cI cJ cZ cO (ao, .inl (cJ, 1, .inr (.inl g))) am qo F2 G2 (xs (1 : Int32).toNatClampNeg)) mw_867 mw_868 mw_869 mw_870 mw_348 pdv_X8_nodeOf ⟨Nat.le_of_ble_eq_true rfl, Nat.le_of_ble_eq_true rfl⟩ rfl rfl rfl hl.1 rfl (Nat.le_of_ble_eq_true rfl) dL_law_1532 ⟨Nat.le_of_ble_eq_true rfl, Nat.le_of_ble_eq_true rfl⟩) hD hS hA (fun r_4 u_4 H locs hp hP hD hS => ?_)
  obtain ⟨rfl, mn9, ld9, sw9, sm9, qo9, F9m, G9m, rfl⟩ := hp
  refine lv_istore (lv' := [(6, .int 0), (5, .int 1), (0, .ref b), (1, .ref (ad 0)), (2, .ref (am 1)), (3, .ref ao), (4, .int 0)]) hx hb dL_law_1535 hl (by decide) rfl (fun ls hl => ?_)
  refine lv_aload_n hx hb dL_law_1537 rfl (lv_at hl 4 rfl) ?_
  refine kI (rV (q0 := 1) (ci := 8) hx hb hml hown hg hN hK hP hD (m_thrown l D cI cJ cZ cO (ao, .inl (cJ, 1, .inr (.inl g))) am qo9 F9m G9m 1 mn9 ld9 sw9 sm9) mw_670 mw_671 mw_672 mw_673 mw_348 pdv_X8_thrown ⟨Nat.le_of_ble_eq_true rfl, Nat.le_of_ble_eq_true rfl⟩ rfl rfl rfl hl.1 rfl (Nat.le_of_ble_eq_true rfl) dL_law_1538 ⟨Nat.le_of_ble_eq_true rfl, Nat.le_of_ble_eq_true rfl⟩) hD hS hA (fun r_5 u_5 H locs hp hP hD hS => ?_)
  obtain ⟨rfl, rfl⟩ := hp
  refine lv_iload hx hb dL_law_1541 (lv_at hl 1 rfl) ?_
  refine lv_icmp_eq (tgt := 1548) hx hb dL_law_1543 (by decide) (fun c_1543 => ?_) (fun c_1543 => absurd (by decide) c_1543)
  refine lv_iload hx hb dL_law_1548 (lv_at hl 1 rfl) ?_
  refine lv_if_ne (tgt := 1565) hx hb dL_law_1550 (by decide) (fun c_1550 => ?_) (fun c_1550 => absurd c_1550 (by decide))
  refine lv_goto (tgt := 2279) hx hb dL_law_1565 (by decide) ?_
  exact lc_end C0 hAl hbA hS (lv_sub hl [2, 6] rfl) (Nat.le_of_ble_eq_true rfl) (Nat.le_of_ble_eq_true rfl)
set_option maxHeartbeats 4000000 in
set_option maxRecDepth 100000 in
theorem lc_28 {p : Program} {l : Launch} {e : Env} {s : State} {m : MethodId} {below : List Frame} {meth : Method} {c : Code} {b : Nat} {xs : Nat → Int32} {A : Nat → Prop} {H : Heap} {locs : List Loc} {ls : Array Slot} (hfl : l.stackTraces = false) (D : va_G) (cI cJ cZ cO : ClassId) (ad : Nat → Nat) (bf : Nat → Int32) (hb0 : ∀ k, bf k = 0) (F : Nat → Nat → Int32) (G : Nat → Nat → Int64) (ao : Nat) (g : Nat → Int64) (am : Nat → Nat) (qo : Nat) (F2 : Nat → Nat → Int32) (G2 : Nat → Nat → Int64) (C0 : lw_At p s m meth c b 4 xs) (hN : NW s) (hST : ST A s) (hSR : SR s) (hK : va_K D vwCl (TO cI cJ cZ cO) s) (hA : ∀ q, s.heap.size ≤ q → A q) (hAl : ∀ q, A q → s.heap.size ≤ q) (hbA : ¬ A b) (hP : va_P D vwCl (XW ad cI cJ 0 bf F G ++ MW (ao, .inl (cJ, 1, .inr (.inl g))) am cI cJ cZ cO 0 0 0 0 0 qo F2 G2) H) (hD : va_D A (XW ad cI cJ 0 bf F G ++ MW (ao, .inl (cJ, 1, .inr (.inl g))) am cI cJ cZ cO 0 0 0 0 0 qo F2 G2)) (hS : va_S A s.heap H locs) (hl : lv_has ls 9 [(0, .ref b), (1, .ref (ad 0)), (2, .ref (am 1)), (3, .ref ao), (4, .int 0)]) : W p l e room_1 s m #[Value.ref b] below meth c H locs 67 9542 (lw_Z below #[Value.ref b] s) (F0 m 1568 ls []) := by
  obtain ⟨hx, hb, hr, hml, hown, hts, hX, hbl, hlocks, hgv⟩ := id C0
  have hg : ∀ w ∈ GW, w.before #[Value.ref b] s = true := fun w hw => hts w (gw_tbl hw)
  refine lv_aload_n hx hb dL_law_1568 rfl (lv_at hl 1 rfl) ?_
  refine kI (rV (q0 := 0) (ci := 7) hx hb hml hown hg hN (hK.sub (tys' := TY cI cJ cZ) [0, 1, 2] rfl) hP hD (p_left l D cI cJ cZ ad bf F G (MW (ao, .inl (cJ, 1, .inr (.inl g))) am cI cJ cZ cO 0 0 0 0 0 qo F2 G2) hb0) mw_871 mw_872 mw_873 mw_874 mw_110 pdv_X7_left ⟨Nat.le_of_ble_eq_true rfl, Nat.le_of_ble_eq_true rfl⟩ rfl rfl rfl hl.1 rfl (Nat.le_of_ble_eq_true rfl) dL_law_1569 ⟨Nat.le_of_ble_eq_true rfl, Nat.le_of_ble_eq_true rfl⟩) hD hS hA (fun r_1 u_1 H locs hp hP hD hS => ?_)
  obtain ⟨rfl, n9, b9, F9, G9, rfl⟩ := hp
  have hP : va_P D vwCl (MW (ao, .inl (cJ, 1, .inr (.inl g))) am cI cJ cZ cO 0 0 0 0 0 qo F2 G2) H := appRP hP
  have hD : va_D A (MW (ao, .inl (cJ, 1, .inr (.inl g))) am cI cJ cZ cO 0 0 0 0 0 qo F2 G2) := appRD hD
  refine lv_aload_n hx hb dL_law_1572 rfl (lv_at hl 2 rfl) ?_
  refine kI (rV (q0 := 1) (ci := 8) hx hb hml hown hg hN hK hP hD (q_left l D cI cJ cZ cO (ao, .inl (cJ, 1, .inr (.inl g))) am qo F2 G2 ) mw_875 mw_876 mw_877 mw_878 mw_348 pdv_X8_left ⟨Nat.le_of_ble_eq_true rfl, Nat.le_of_ble_eq_true rfl⟩ rfl rfl rfl hl.1 rfl (Nat.le_of_ble_eq_true rfl) dL_law_1573 ⟨Nat.le_of_ble_eq_true rfl, Nat.le_of_ble_eq_true rfl⟩) hD hS hA (fun r_2 u_2 H locs hp hP hD hS => ?_)
  obtain ⟨rfl, mn9, ld9, sw9, sm9, qo9, F9m, G9m, rfl⟩ := hp
  refine lv_icmp_eq (tgt := 2279) hx hb dL_law_1576 (by decide) (fun c_1576 => ?_) (fun c_1576 => absurd (by decide) c_1576)
  exact lc_end C0 hAl hbA hS (lv_sub hl [0, 4] rfl) (Nat.le_of_ble_eq_true rfl) (Nat.le_of_ble_eq_true rfl)
set_option maxHeartbeats 4000000 in
set_option maxRecDepth 100000 in
theorem lc_29 {p : Program} {l : Launch} {e : Env} {s : State} {m : MethodId} {below : List Frame} {meth : Method} {c : Code} {b : Nat} {xs : Nat → Int32} {A : Nat → Prop} {H : Heap} {locs : List Loc} {ls : Array Slot} (hfl : l.stackTraces = false) (D : va_G) (cI cJ cZ cO : ClassId) (ad : Nat → Nat) (bf : Nat → Int32) (hb0 : ∀ k, bf k = 0) (F : Nat → Nat → Int32) (G : Nat → Nat → Int64) (ao : Nat) (g : Nat → Int64) (am : Nat → Nat) (qo : Nat) (F2 : Nat → Nat → Int32) (G2 : Nat → Nat → Int64) (C0 : lw_At p s m meth c b 4 xs) (hN : NW s) (hST : ST A s) (hSR : SR s) (hK : va_K D vwCl (TO cI cJ cZ cO) s) (hA : ∀ q, s.heap.size ≤ q → A q) (hAl : ∀ q, A q → s.heap.size ≤ q) (hbA : ¬ A b) (hP : va_P D vwCl (XW ad cI cJ 0 bf F G ++ MW (ao, .inl (cJ, 1, .inr (.inl g))) am cI cJ cZ cO 0 0 0 0 0 qo F2 G2) H) (hD : va_D A (XW ad cI cJ 0 bf F G ++ MW (ao, .inl (cJ, 1, .inr (.inl g))) am cI cJ cZ cO 0 0 0 0 0 qo F2 G2)) (hS : va_S A s.heap H locs) (hl : lv_has ls 9 [(0, .ref b), (1, .ref (ad 0)), (2, .ref (am 1)), (3, .ref ao), (4, .int 0)]) : W p l e room_1 s m #[Value.ref b] below meth c H locs 67 9542 (lw_Z below #[Value.ref b] s) (F0 m 1581 ls []) := by
  obtain ⟨hx, hb, hr, hml, hown, hts, hX, hbl, hlocks, hgv⟩ := id C0
  have hg : ∀ w ∈ GW, w.before #[Value.ref b] s = true := fun w hw => hts w (gw_tbl hw)
  refine lv_aload_n hx hb dL_law_1581 rfl (lv_at hl 1 rfl) ?_
  refine kI (rV (q0 := 0) (ci := 7) hx hb hml hown hg hN (hK.sub (tys' := TY cI cJ cZ) [0, 1, 2] rfl) hP hD (p_isNeat l D cI cJ cZ ad bf F G (MW (ao, .inl (cJ, 1, .inr (.inl g))) am cI cJ cZ cO 0 0 0 0 0 qo F2 G2) hb0) mw_879 mw_880 mw_881 mw_882 mw_110 pdv_X7_isNeat ⟨Nat.le_of_ble_eq_true rfl, Nat.le_of_ble_eq_true rfl⟩ rfl rfl rfl hl.1 rfl (Nat.le_of_ble_eq_true rfl) dL_law_1582 ⟨Nat.le_of_ble_eq_true rfl, Nat.le_of_ble_eq_true rfl⟩) hD hS hA (fun r_1 u_1 H locs hp hP hD hS => ?_)
  obtain ⟨rfl, n9, b9, F9, G9, rfl⟩ := hp
  have hP : va_P D vwCl (MW (ao, .inl (cJ, 1, .inr (.inl g))) am cI cJ cZ cO 0 0 0 0 0 qo F2 G2) H := appRP hP
  have hD : va_D A (MW (ao, .inl (cJ, 1, .inr (.inl g))) am cI cJ cZ cO 0 0 0 0 0 qo F2 G2) := appRD hD
  refine lv_aload_n hx hb dL_law_1585 rfl (lv_at hl 2 rfl) ?_
  refine kI (rV (q0 := 1) (ci := 8) hx hb hml hown hg hN hK hP hD (q_isNeat l D cI cJ cZ cO (ao, .inl (cJ, 1, .inr (.inl g))) am qo F2 G2 ) mw_883 mw_884 mw_885 mw_886 mw_348 pdv_X8_isNeat ⟨Nat.le_of_ble_eq_true rfl, Nat.le_of_ble_eq_true rfl⟩ rfl rfl rfl hl.1 rfl (Nat.le_of_ble_eq_true rfl) dL_law_1586 ⟨Nat.le_of_ble_eq_true rfl, Nat.le_of_ble_eq_true rfl⟩) hD hS hA (fun r_2 u_2 H locs hp hP hD hS => ?_)
  obtain ⟨rfl, mn9, ld9, sw9, sm9, qo9, F9m, G9m, rfl⟩ := hp
  refine lv_icmp_eq (tgt := 2279) hx hb dL_law_1589 (by decide) (fun c_1589 => ?_) (fun c_1589 => absurd (by decide) c_1589)
  exact lc_end C0 hAl hbA hS (lv_sub hl [0, 4] rfl) (Nat.le_of_ble_eq_true rfl) (Nat.le_of_ble_eq_true rfl)
set_option maxHeartbeats 4000000 in
set_option maxRecDepth 100000 in
theorem lc_30 {p : Program} {l : Launch} {e : Env} {s : State} {m : MethodId} {below : List Frame} {meth : Method} {c : Code} {b : Nat} {xs : Nat → Int32} {A : Nat → Prop} {H : Heap} {locs : List Loc} {ls : Array Slot} (hfl : l.stackTraces = false) (D : va_G) (cI cJ cZ cO : ClassId) (ad : Nat → Nat) (bf : Nat → Int32) (hb0 : ∀ k, bf k = 0) (F : Nat → Nat → Int32) (G : Nat → Nat → Int64) (ao : Nat) (g : Nat → Int64) (am : Nat → Nat) (qo : Nat) (F2 : Nat → Nat → Int32) (G2 : Nat → Nat → Int64) (C0 : lw_At p s m meth c b 4 xs) (hN : NW s) (hST : ST A s) (hSR : SR s) (hK : va_K D vwCl (TO cI cJ cZ cO) s) (hA : ∀ q, s.heap.size ≤ q → A q) (hAl : ∀ q, A q → s.heap.size ≤ q) (hbA : ¬ A b) (hP : va_P D vwCl (XW ad cI cJ 0 bf F G ++ MW (ao, .inl (cJ, 1, .inr (.inl g))) am cI cJ cZ cO 0 0 0 0 0 qo F2 G2) H) (hD : va_D A (XW ad cI cJ 0 bf F G ++ MW (ao, .inl (cJ, 1, .inr (.inl g))) am cI cJ cZ cO 0 0 0 0 0 qo F2 G2)) (hS : va_S A s.heap H locs) (hl : lv_has ls 9 [(0, .ref b), (1, .ref (ad 0)), (2, .ref (am 1)), (3, .ref ao), (4, .int 0)]) : W p l e room_1 s m #[Value.ref b] below meth c H locs 67 9542 (lw_Z below #[Value.ref b] s) (F0 m 1594 ls []) := by
  obtain ⟨hx, hb, hr, hml, hown, hts, hX, hbl, hlocks, hgv⟩ := id C0
  have hg : ∀ w ∈ GW, w.before #[Value.ref b] s = true := fun w hw => hts w (gw_tbl hw)
  refine lv_aload_n hx hb dL_law_1594 rfl (lv_at hl 1 rfl) ?_
  refine lv_aload_n hx hb dL_law_1595 rfl (lv_at hl 0 rfl) ?_
  refine lv_iload hx hb dL_law_1596 (lv_at hl 4 rfl) ?_
  refine lv_iconst (v := 1) hx hb dL_law_1598 (by decide) ?_
  refine lv_iadd hx hb dL_law_1599 ?_
  refine lv_topi (fun v_1 ev_1 => ?_)
  obtain rfl : v_1 = (1 : Int32) := ev_1.trans (by decide)
  refine va_sld hx hb hX hbl hbA hS (i := 1) (by unfold vp_in; decide) dL_law_1600 ?_
  refine lv_aload_n hx hb dL_law_1601 rfl (lv_at hl 3 rfl) ?_
  refine kI (rSW hx hb hml hown hg hN hK hP hD hST hSR hS hA (h_endsIn l hfl D cI cJ cZ cO ad bf F G ao g am qo F2 G2 (xs (1 : Int32).toNatClampNeg)) mw_887 mw_888 mw_889 mw_665 pd_L_endsIn ⟨Nat.le_of_ble_eq_true rfl, Nat.le_of_ble_eq_true rfl⟩ rfl hl.1 rfl (Nat.le_of_ble_eq_true rfl) dL_law_1602 ⟨Nat.le_of_ble_eq_true rfl, Nat.le_of_ble_eq_true rfl⟩) hD hS hA (fun r_2 u_2 H locs hp hP hD hS => ?_)
  obtain ⟨rfl, rfl⟩ := hp
  refine lv_istore (lv' := [(5, .int 1), (0, .ref b), (1, .ref (ad 0)), (2, .ref (am 1)), (3, .ref ao), (4, .int 0)]) hx hb dL_law_1605 hl (by decide) rfl (fun ls hl => ?_)
  refine lv_aload_n hx hb dL_law_1607 rfl (lv_at hl 3 rfl) ?_
  refine lv_aload_n hx hb dL_law_1608 rfl (lv_at hl 1 rfl) ?_
  refine lv_iload hx hb dL_law_1609 (lv_at hl 5 rfl) ?_
  refine lv_iconst (v := 1) hx hb dL_law_1611 (by decide) ?_
  refine lv_iadd hx hb dL_law_1612 ?_
  refine lv_topi (fun v_3 ev_3 => ?_)
  obtain rfl : v_3 = (1 : Int32) := ev_3.trans (by decide)
  refine va_sld hx hb hX hbl hbA hS (i := 1) (by unfold vp_in; decide) dL_law_1613 ?_
  refine kI (rV (q0 := 1) (ci := 8) hx hb hml hown hg hN hK hP hD (q_endsIn l D cI cJ cZ cO (ao, .inl (cJ, 1, .inr (.inl g))) am qo F2 G2 (xs (1 : Int32).toNatClampNeg)) mw_890 mw_891 mw_892 mw_893 mw_348 pdv_X8_endsIn ⟨Nat.le_of_ble_eq_true rfl, Nat.le_of_ble_eq_true rfl⟩ rfl rfl rfl hl.1 rfl (Nat.le_of_ble_eq_true rfl) dL_law_1614 ⟨Nat.le_of_ble_eq_true rfl, Nat.le_of_ble_eq_true rfl⟩) hD hS hA (fun r_4 u_4 H locs hp hP hD hS => ?_)
  obtain ⟨rfl, mn9, ld9, sw9, sm9, qo9, F9m, G9m, rfl⟩ := hp
  refine lv_istore (lv' := [(6, .int 0), (5, .int 1), (0, .ref b), (1, .ref (ad 0)), (2, .ref (am 1)), (3, .ref ao), (4, .int 0)]) hx hb dL_law_1617 hl (by decide) rfl (fun ls hl => ?_)
  refine lv_aload_n hx hb dL_law_1619 rfl (lv_at hl 4 rfl) ?_
  refine kI (rV (q0 := 1) (ci := 8) hx hb hml hown hg hN hK hP hD (m_thrown l D cI cJ cZ cO (ao, .inl (cJ, 1, .inr (.inl g))) am qo9 F9m G9m 1 mn9 ld9 sw9 sm9) mw_670 mw_671 mw_672 mw_673 mw_348 pdv_X8_thrown ⟨Nat.le_of_ble_eq_true rfl, Nat.le_of_ble_eq_true rfl⟩ rfl rfl rfl hl.1 rfl (Nat.le_of_ble_eq_true rfl) dL_law_1620 ⟨Nat.le_of_ble_eq_true rfl, Nat.le_of_ble_eq_true rfl⟩) hD hS hA (fun r_5 u_5 H locs hp hP hD hS => ?_)
  obtain ⟨rfl, rfl⟩ := hp
  refine lv_iload hx hb dL_law_1623 (lv_at hl 1 rfl) ?_
  refine lv_icmp_eq (tgt := 1630) hx hb dL_law_1625 (by decide) (fun c_1625 => ?_) (fun c_1625 => absurd (by decide) c_1625)
  refine lv_iload hx hb dL_law_1630 (lv_at hl 1 rfl) ?_
  refine lv_if_ne (tgt := 1647) hx hb dL_law_1632 (by decide) (fun c_1632 => ?_) (fun c_1632 => absurd c_1632 (by decide))
  refine lv_goto (tgt := 2279) hx hb dL_law_1647 (by decide) ?_
  exact lc_end C0 hAl hbA hS (lv_sub hl [2, 6] rfl) (Nat.le_of_ble_eq_true rfl) (Nat.le_of_ble_eq_true rfl)
set_option maxHeartbeats 4000000 in
set_option maxRecDepth 100000 in
theorem lc_31 {p : Program} {l : Launch} {e : Env} {s : State} {m : MethodId} {below : List Frame} {meth : Method} {c : Code} {b : Nat} {xs : Nat → Int32} {A : Nat → Prop} {H : Heap} {locs : List Loc} {ls : Array Slot} (hfl : l.stackTraces = false) (D : va_G) (cI cJ cZ cO : ClassId) (ad : Nat → Nat) (bf : Nat → Int32) (hb0 : ∀ k, bf k = 0) (F : Nat → Nat → Int32) (G : Nat → Nat → Int64) (ao : Nat) (g : Nat → Int64) (am : Nat → Nat) (qo : Nat) (F2 : Nat → Nat → Int32) (G2 : Nat → Nat → Int64) (C0 : lw_At p s m meth c b 4 xs) (hN : NW s) (hST : ST A s) (hSR : SR s) (hK : va_K D vwCl (TO cI cJ cZ cO) s) (hA : ∀ q, s.heap.size ≤ q → A q) (hAl : ∀ q, A q → s.heap.size ≤ q) (hbA : ¬ A b) (hP : va_P D vwCl (XW ad cI cJ 0 bf F G ++ MW (ao, .inl (cJ, 1, .inr (.inl g))) am cI cJ cZ cO 0 0 0 0 0 qo F2 G2) H) (hD : va_D A (XW ad cI cJ 0 bf F G ++ MW (ao, .inl (cJ, 1, .inr (.inl g))) am cI cJ cZ cO 0 0 0 0 0 qo F2 G2)) (hS : va_S A s.heap H locs) (hl : lv_has ls 9 [(0, .ref b), (1, .ref (ad 0)), (2, .ref (am 1)), (3, .ref ao), (4, .int 0)]) : W p l e room_1 s m #[Value.ref b] below meth c H locs 67 9542 (lw_Z below #[Value.ref b] s) (F0 m 1650 ls []) := by
  obtain ⟨hx, hb, hr, hml, hown, hts, hX, hbl, hlocks, hgv⟩ := id C0
  have hg : ∀ w ∈ GW, w.before #[Value.ref b] s = true := fun w hw => hts w (gw_tbl hw)
  refine lv_aload_n hx hb dL_law_1650 rfl (lv_at hl 1 rfl) ?_
  refine kI (rV (q0 := 0) (ci := 7) hx hb hml hown hg hN (hK.sub (tys' := TY cI cJ cZ) [0, 1, 2] rfl) hP hD (p_layers l D cI cJ cZ ad bf F G (MW (ao, .inl (cJ, 1, .inr (.inl g))) am cI cJ cZ cO 0 0 0 0 0 qo F2 G2) hb0) mw_894 mw_895 mw_896 mw_897 mw_110 pdv_X7_layers ⟨Nat.le_of_ble_eq_true rfl, Nat.le_of_ble_eq_true rfl⟩ rfl rfl rfl hl.1 rfl (Nat.le_of_ble_eq_true rfl) dL_law_1651 ⟨Nat.le_of_ble_eq_true rfl, Nat.le_of_ble_eq_true rfl⟩) hD hS hA (fun r_1 u_1 H locs hp hP hD hS => ?_)
  obtain ⟨rfl, n9, b9, F9, G9, rfl⟩ := hp
  have hP : va_P D vwCl (MW (ao, .inl (cJ, 1, .inr (.inl g))) am cI cJ cZ cO 0 0 0 0 0 qo F2 G2) H := appRP hP
  have hD : va_D A (MW (ao, .inl (cJ, 1, .inr (.inl g))) am cI cJ cZ cO 0 0 0 0 0 qo F2 G2) := appRD hD
  refine lv_aload_n hx hb dL_law_1654 rfl (lv_at hl 2 rfl) ?_
  refine kI (rV (q0 := 1) (ci := 8) hx hb hml hown hg hN hK hP hD (q_layers l D cI cJ cZ cO (ao, .inl (cJ, 1, .inr (.inl g))) am qo F2 G2 ) mw_898 mw_899 mw_900 mw_901 mw_348 pdv_X8_layers ⟨Nat.le_of_ble_eq_true rfl, Nat.le_of_ble_eq_true rfl⟩ rfl rfl rfl hl.1 rfl (Nat.le_of_ble_eq_true rfl) dL_law_1655 ⟨Nat.le_of_ble_eq_true rfl, Nat.le_of_ble_eq_true rfl⟩) hD hS hA (fun r_2 u_2 H locs hp hP hD hS => ?_)
  obtain ⟨rfl, mn9, ld9, sw9, sm9, qo9, F9m, G9m, rfl⟩ := hp
  refine lv_icmp_eq (tgt := 2279) hx hb dL_law_1658 (by decide) (fun c_1658 => ?_) (fun c_1658 => absurd (by decide) c_1658)
  exact lc_end C0 hAl hbA hS (lv_sub hl [0, 4] rfl) (Nat.le_of_ble_eq_true rfl) (Nat.le_of_ble_eq_true rfl)
set_option maxHeartbeats 4000000 in
set_option maxRecDepth 100000 in
theorem lc_32 {p : Program} {l : Launch} {e : Env} {s : State} {m : MethodId} {below : List Frame} {meth : Method} {c : Code} {b : Nat} {xs : Nat → Int32} {A : Nat → Prop} {H : Heap} {locs : List Loc} {ls : Array Slot} (hfl : l.stackTraces = false) (D : va_G) (cI cJ cZ cO : ClassId) (ad : Nat → Nat) (bf : Nat → Int32) (hb0 : ∀ k, bf k = 0) (F : Nat → Nat → Int32) (G : Nat → Nat → Int64) (ao : Nat) (g : Nat → Int64) (am : Nat → Nat) (qo : Nat) (F2 : Nat → Nat → Int32) (G2 : Nat → Nat → Int64) (C0 : lw_At p s m meth c b 4 xs) (hN : NW s) (hST : ST A s) (hSR : SR s) (hK : va_K D vwCl (TO cI cJ cZ cO) s) (hA : ∀ q, s.heap.size ≤ q → A q) (hAl : ∀ q, A q → s.heap.size ≤ q) (hbA : ¬ A b) (hP : va_P D vwCl (XW ad cI cJ 0 bf F G ++ MW (ao, .inl (cJ, 1, .inr (.inl g))) am cI cJ cZ cO 0 0 0 0 0 qo F2 G2) H) (hD : va_D A (XW ad cI cJ 0 bf F G ++ MW (ao, .inl (cJ, 1, .inr (.inl g))) am cI cJ cZ cO 0 0 0 0 0 qo F2 G2)) (hS : va_S A s.heap H locs) (hl : lv_has ls 9 [(0, .ref b), (1, .ref (ad 0)), (2, .ref (am 1)), (3, .ref ao), (4, .int 0)]) : W p l e room_1 s m #[Value.ref b] below meth c H locs 67 9542 (lw_Z below #[Value.ref b] s) (F0 m 1663 ls []) := by
  obtain ⟨hx, hb, hr, hml, hown, hts, hX, hbl, hlocks, hgv⟩ := id C0
  have hg : ∀ w ∈ GW, w.before #[Value.ref b] s = true := fun w hw => hts w (gw_tbl hw)
  refine lv_aload_n hx hb dL_law_1663 rfl (lv_at hl 1 rfl) ?_
  refine lv_aload_n hx hb dL_law_1664 rfl (lv_at hl 0 rfl) ?_
  refine lv_iload hx hb dL_law_1665 (lv_at hl 4 rfl) ?_
  refine lv_iconst (v := 1) hx hb dL_law_1667 (by decide) ?_
  refine lv_iadd hx hb dL_law_1668 ?_
  refine lv_topi (fun v_1 ev_1 => ?_)
  obtain rfl : v_1 = (1 : Int32) := ev_1.trans (by decide)
  refine va_sld hx hb hX hbl hbA hS (i := 1) (by unfold vp_in; decide) dL_law_1669 ?_
  refine lv_aload_n hx hb dL_law_1670 rfl (lv_at hl 3 rfl) ?_
  refine kI (rSW hx hb hml hown hg hN hK hP hD hST hSR hS hA (h_layerOf l hfl D cI cJ cZ cO ad bf F G ao g am qo F2 G2 (xs (1 : Int32).toNatClampNeg)) mw_902 mw_903 mw_904 mw_665 pd_L_layerOf ⟨Nat.le_of_ble_eq_true rfl, Nat.le_of_ble_eq_true rfl⟩ rfl hl.1 rfl (Nat.le_of_ble_eq_true rfl) dL_law_1671 ⟨Nat.le_of_ble_eq_true rfl, Nat.le_of_ble_eq_true rfl⟩) hD hS hA (fun r_2 u_2 H locs hp hP hD hS => ?_)
  obtain ⟨rfl, rfl⟩ := hp
  refine lv_istore (lv' := [(5, .int 1), (0, .ref b), (1, .ref (ad 0)), (2, .ref (am 1)), (3, .ref ao), (4, .int 0)]) hx hb dL_law_1674 hl (by decide) rfl (fun ls hl => ?_)
  refine lv_aload_n hx hb dL_law_1676 rfl (lv_at hl 3 rfl) ?_
  refine lv_aload_n hx hb dL_law_1677 rfl (lv_at hl 1 rfl) ?_
  refine lv_iload hx hb dL_law_1678 (lv_at hl 5 rfl) ?_
  refine lv_iconst (v := 1) hx hb dL_law_1680 (by decide) ?_
  refine lv_iadd hx hb dL_law_1681 ?_
  refine lv_topi (fun v_3 ev_3 => ?_)
  obtain rfl : v_3 = (1 : Int32) := ev_3.trans (by decide)
  refine va_sld hx hb hX hbl hbA hS (i := 1) (by unfold vp_in; decide) dL_law_1682 ?_
  refine kI (rV (q0 := 1) (ci := 8) hx hb hml hown hg hN hK hP hD (q_layerOf l D cI cJ cZ cO (ao, .inl (cJ, 1, .inr (.inl g))) am qo F2 G2 (xs (1 : Int32).toNatClampNeg)) mw_905 mw_906 mw_907 mw_908 mw_348 pdv_X8_layerOf ⟨Nat.le_of_ble_eq_true rfl, Nat.le_of_ble_eq_true rfl⟩ rfl rfl rfl hl.1 rfl (Nat.le_of_ble_eq_true rfl) dL_law_1683 ⟨Nat.le_of_ble_eq_true rfl, Nat.le_of_ble_eq_true rfl⟩) hD hS hA (fun r_4 u_4 H locs hp hP hD hS => ?_)
  obtain ⟨rfl, mn9, ld9, sw9, sm9, qo9, F9m, G9m, rfl⟩ := hp
  refine lv_istore (lv' := [(6, .int 0), (5, .int 1), (0, .ref b), (1, .ref (ad 0)), (2, .ref (am 1)), (3, .ref ao), (4, .int 0)]) hx hb dL_law_1686 hl (by decide) rfl (fun ls hl => ?_)
  refine lv_aload_n hx hb dL_law_1688 rfl (lv_at hl 4 rfl) ?_
  refine kI (rV (q0 := 1) (ci := 8) hx hb hml hown hg hN hK hP hD (m_thrown l D cI cJ cZ cO (ao, .inl (cJ, 1, .inr (.inl g))) am qo9 F9m G9m 1 mn9 ld9 sw9 sm9) mw_670 mw_671 mw_672 mw_673 mw_348 pdv_X8_thrown ⟨Nat.le_of_ble_eq_true rfl, Nat.le_of_ble_eq_true rfl⟩ rfl rfl rfl hl.1 rfl (Nat.le_of_ble_eq_true rfl) dL_law_1689 ⟨Nat.le_of_ble_eq_true rfl, Nat.le_of_ble_eq_true rfl⟩) hD hS hA (fun r_5 u_5 H locs hp hP hD hS => ?_)
  obtain ⟨rfl, rfl⟩ := hp
  refine lv_iload hx hb dL_law_1692 (lv_at hl 1 rfl) ?_
  refine lv_icmp_eq (tgt := 1699) hx hb dL_law_1694 (by decide) (fun c_1694 => ?_) (fun c_1694 => absurd (by decide) c_1694)
  refine lv_iload hx hb dL_law_1699 (lv_at hl 1 rfl) ?_
  refine lv_if_ne (tgt := 1716) hx hb dL_law_1701 (by decide) (fun c_1701 => ?_) (fun c_1701 => absurd c_1701 (by decide))
  refine lv_goto (tgt := 2279) hx hb dL_law_1716 (by decide) ?_
  exact lc_end C0 hAl hbA hS (lv_sub hl [2, 6] rfl) (Nat.le_of_ble_eq_true rfl) (Nat.le_of_ble_eq_true rfl)
set_option maxHeartbeats 4000000 in
set_option maxRecDepth 100000 in
theorem lc_33 {p : Program} {l : Launch} {e : Env} {s : State} {m : MethodId} {below : List Frame} {meth : Method} {c : Code} {b : Nat} {xs : Nat → Int32} {A : Nat → Prop} {H : Heap} {locs : List Loc} {ls : Array Slot} (hfl : l.stackTraces = false) (D : va_G) (cI cJ cZ cO : ClassId) (ad : Nat → Nat) (bf : Nat → Int32) (hb0 : ∀ k, bf k = 0) (F : Nat → Nat → Int32) (G : Nat → Nat → Int64) (ao : Nat) (g : Nat → Int64) (am : Nat → Nat) (qo : Nat) (F2 : Nat → Nat → Int32) (G2 : Nat → Nat → Int64) (C0 : lw_At p s m meth c b 4 xs) (hN : NW s) (hST : ST A s) (hSR : SR s) (hK : va_K D vwCl (TO cI cJ cZ cO) s) (hA : ∀ q, s.heap.size ≤ q → A q) (hAl : ∀ q, A q → s.heap.size ≤ q) (hbA : ¬ A b) (hP : va_P D vwCl (XW ad cI cJ 0 bf F G ++ MW (ao, .inl (cJ, 1, .inr (.inl g))) am cI cJ cZ cO 0 0 0 0 0 qo F2 G2) H) (hD : va_D A (XW ad cI cJ 0 bf F G ++ MW (ao, .inl (cJ, 1, .inr (.inl g))) am cI cJ cZ cO 0 0 0 0 0 qo F2 G2)) (hS : va_S A s.heap H locs) (hl : lv_has ls 9 [(0, .ref b), (1, .ref (ad 0)), (2, .ref (am 1)), (3, .ref ao), (4, .int 0)]) : W p l e room_1 s m #[Value.ref b] below meth c H locs 67 9542 (lw_Z below #[Value.ref b] s) (F0 m 1719 ls []) := by
  obtain ⟨hx, hb, hr, hml, hown, hts, hX, hbl, hlocks, hgv⟩ := id C0
  have hg : ∀ w ∈ GW, w.before #[Value.ref b] s = true := fun w hw => hts w (gw_tbl hw)
  refine lv_aload_n hx hb dL_law_1719 rfl (lv_at hl 1 rfl) ?_
  refine lv_aload_n hx hb dL_law_1720 rfl (lv_at hl 0 rfl) ?_
  refine lv_iload hx hb dL_law_1721 (lv_at hl 4 rfl) ?_
  refine lv_iconst (v := 1) hx hb dL_law_1723 (by decide) ?_
  refine lv_iadd hx hb dL_law_1724 ?_
  refine lv_topi (fun v_1 ev_1 => ?_)
  obtain rfl : v_1 = (1 : Int32) := ev_1.trans (by decide)
  refine va_sld hx hb hX hbl hbA hS (i := 1) (by unfold vp_in; decide) dL_law_1725 ?_
  refine lv_aload_n hx hb dL_law_1726 rfl (lv_at hl 3 rfl) ?_
  refine kI (rSW hx hb hml hown hg hN hK hP hD hST hSR hS hA (h_isTurned l hfl D cI cJ cZ cO ad bf F G ao g am qo F2 G2 (xs (1 : Int32).toNatClampNeg)) mw_909 mw_910 mw_911 mw_665 pd_L_isTurned ⟨Nat.le_of_ble_eq_true rfl, Nat.le_of_ble_eq_true rfl⟩ rfl hl.1 rfl (Nat.le_of_ble_eq_true rfl) dL_law_1727 ⟨Nat.le_of_ble_eq_true rfl, Nat.le_of_ble_eq_true rfl⟩) hD hS hA (fun r_2 u_2 H locs hp hP hD hS => ?_)
  obtain ⟨rfl, rfl⟩ := hp
  refine lv_istore (lv' := [(5, .int 1), (0, .ref b), (1, .ref (ad 0)), (2, .ref (am 1)), (3, .ref ao), (4, .int 0)]) hx hb dL_law_1730 hl (by decide) rfl (fun ls hl => ?_)
  refine lv_aload_n hx hb dL_law_1732 rfl (lv_at hl 3 rfl) ?_
  refine lv_aload_n hx hb dL_law_1733 rfl (lv_at hl 1 rfl) ?_
  refine lv_iload hx hb dL_law_1734 (lv_at hl 5 rfl) ?_
  refine lv_iconst (v := 1) hx hb dL_law_1736 (by decide) ?_
  refine lv_iadd hx hb dL_law_1737 ?_
  refine lv_topi (fun v_3 ev_3 => ?_)
  obtain rfl : v_3 = (1 : Int32) := ev_3.trans (by decide)
  refine va_sld hx hb hX hbl hbA hS (i := 1) (by unfold vp_in; decide) dL_law_1738 ?_
  refine kI (rV (q0 := 1) (ci := 8) hx hb hml hown hg hN hK hP hD (q_isTurned l D cI cJ cZ cO (ao, .inl (cJ, 1, .inr (.inl g))) am qo F2 G2 (xs (1 : Int32).toNatClampNeg)) mw_912 mw_913 mw_914 mw_915 mw_348 pdv_X8_isTurned ⟨Nat.le_of_ble_eq_true rfl, Nat.le_of_ble_eq_true rfl⟩ rfl rfl rfl hl.1 rfl (Nat.le_of_ble_eq_true rfl) dL_law_1739 ⟨Nat.le_of_ble_eq_true rfl, Nat.le_of_ble_eq_true rfl⟩) hD hS hA (fun r_4 u_4 H locs hp hP hD hS => ?_)
  obtain ⟨rfl, mn9, ld9, sw9, sm9, qo9, F9m, G9m, rfl⟩ := hp
  refine lv_istore (lv' := [(6, .int 0), (5, .int 1), (0, .ref b), (1, .ref (ad 0)), (2, .ref (am 1)), (3, .ref ao), (4, .int 0)]) hx hb dL_law_1742 hl (by decide) rfl (fun ls hl => ?_)
  refine lv_aload_n hx hb dL_law_1744 rfl (lv_at hl 4 rfl) ?_
  refine kI (rV (q0 := 1) (ci := 8) hx hb hml hown hg hN hK hP hD (m_thrown l D cI cJ cZ cO (ao, .inl (cJ, 1, .inr (.inl g))) am qo9 F9m G9m 1 mn9 ld9 sw9 sm9) mw_670 mw_671 mw_672 mw_673 mw_348 pdv_X8_thrown ⟨Nat.le_of_ble_eq_true rfl, Nat.le_of_ble_eq_true rfl⟩ rfl rfl rfl hl.1 rfl (Nat.le_of_ble_eq_true rfl) dL_law_1745 ⟨Nat.le_of_ble_eq_true rfl, Nat.le_of_ble_eq_true rfl⟩) hD hS hA (fun r_5 u_5 H locs hp hP hD hS => ?_)
  obtain ⟨rfl, rfl⟩ := hp
  refine lv_iload hx hb dL_law_1748 (lv_at hl 1 rfl) ?_
  refine lv_icmp_eq (tgt := 1755) hx hb dL_law_1750 (by decide) (fun c_1750 => ?_) (fun c_1750 => absurd (by decide) c_1750)
  refine lv_iload hx hb dL_law_1755 (lv_at hl 1 rfl) ?_
  refine lv_if_ne (tgt := 1779) hx hb dL_law_1757 (by decide) (fun c_1757 => ?_) (fun c_1757 => absurd c_1757 (by decide))
  refine lv_goto (tgt := 2279) hx hb dL_law_1779 (by decide) ?_
  exact lc_end C0 hAl hbA hS (lv_sub hl [2, 6] rfl) (Nat.le_of_ble_eq_true rfl) (Nat.le_of_ble_eq_true rfl)
set_option maxHeartbeats 4000000 in
set_option maxRecDepth 100000 in
theorem lc_34 {p : Program} {l : Launch} {e : Env} {s : State} {m : MethodId} {below : List Frame} {meth : Method} {c : Code} {b : Nat} {xs : Nat → Int32} {A : Nat → Prop} {H : Heap} {locs : List Loc} {ls : Array Slot} (hfl : l.stackTraces = false) (D : va_G) (cI cJ cZ cO : ClassId) (ad : Nat → Nat) (bf : Nat → Int32) (hb0 : ∀ k, bf k = 0) (F : Nat → Nat → Int32) (G : Nat → Nat → Int64) (ao : Nat) (g : Nat → Int64) (am : Nat → Nat) (qo : Nat) (F2 : Nat → Nat → Int32) (G2 : Nat → Nat → Int64) (C0 : lw_At p s m meth c b 4 xs) (hN : NW s) (hST : ST A s) (hSR : SR s) (hK : va_K D vwCl (TO cI cJ cZ cO) s) (hA : ∀ q, s.heap.size ≤ q → A q) (hAl : ∀ q, A q → s.heap.size ≤ q) (hbA : ¬ A b) (hP : va_P D vwCl (XW ad cI cJ 0 bf F G ++ MW (ao, .inl (cJ, 1, .inr (.inl g))) am cI cJ cZ cO 0 0 0 0 0 qo F2 G2) H) (hD : va_D A (XW ad cI cJ 0 bf F G ++ MW (ao, .inl (cJ, 1, .inr (.inl g))) am cI cJ cZ cO 0 0 0 0 0 qo F2 G2)) (hS : va_S A s.heap H locs) (hl : lv_has ls 9 [(0, .ref b), (1, .ref (ad 0)), (2, .ref (am 1)), (3, .ref ao), (4, .int 0)]) : W p l e room_1 s m #[Value.ref b] below meth c H locs 67 9542 (lw_Z below #[Value.ref b] s) (F0 m 1782 ls []) := by
  obtain ⟨hx, hb, hr, hml, hown, hts, hX, hbl, hlocks, hgv⟩ := id C0
  have hg : ∀ w ∈ GW, w.before #[Value.ref b] s = true := fun w hw => hts w (gw_tbl hw)
  refine lv_aload_n hx hb dL_law_1782 rfl (lv_at hl 1 rfl) ?_
  refine lv_aload_n hx hb dL_law_1783 rfl (lv_at hl 0 rfl) ?_
  refine lv_iload hx hb dL_law_1784 (lv_at hl 4 rfl) ?_
  refine lv_iconst (v := 1) hx hb dL_law_1786 (by decide) ?_
  refine lv_iadd hx hb dL_law_1787 ?_
  refine lv_topi (fun v_1 ev_1 => ?_)
  obtain rfl : v_1 = (1 : Int32) := ev_1.trans (by decide)
  refine va_sld hx hb hX hbl hbA hS (i := 1) (by unfold vp_in; decide) dL_law_1788 ?_
  refine lv_aload_n hx hb dL_law_1789 rfl (lv_at hl 3 rfl) ?_
  refine kI (rSW hx hb hml hown hg hN hK hP hD hST hSR hS hA (h_points l hfl D cI cJ cZ cO ad bf F G ao g am qo F2 G2 (xs (1 : Int32).toNatClampNeg)) mw_916 mw_917 mw_918 mw_665 pd_L_points ⟨Nat.le_of_ble_eq_true rfl, Nat.le_of_ble_eq_true rfl⟩ rfl hl.1 rfl (Nat.le_of_ble_eq_true rfl) dL_law_1790 ⟨Nat.le_of_ble_eq_true rfl, Nat.le_of_ble_eq_true rfl⟩) hD hS hA (fun r_2 u_2 H locs hp hP hD hS => ?_)
  obtain ⟨rfl, rfl⟩ := hp
  refine lv_istore (lv' := [(5, .int 1), (0, .ref b), (1, .ref (ad 0)), (2, .ref (am 1)), (3, .ref ao), (4, .int 0)]) hx hb dL_law_1793 hl (by decide) rfl (fun ls hl => ?_)
  refine lv_aload_n hx hb dL_law_1795 rfl (lv_at hl 3 rfl) ?_
  refine lv_aload_n hx hb dL_law_1796 rfl (lv_at hl 1 rfl) ?_
  refine lv_iload hx hb dL_law_1797 (lv_at hl 5 rfl) ?_
  refine lv_iconst (v := 1) hx hb dL_law_1799 (by decide) ?_
  refine lv_iadd hx hb dL_law_1800 ?_
  refine lv_topi (fun v_3 ev_3 => ?_)
  obtain rfl : v_3 = (1 : Int32) := ev_3.trans (by decide)
  refine va_sld hx hb hX hbl hbA hS (i := 1) (by unfold vp_in; decide) dL_law_1801 ?_
  refine kI (rV (q0 := 1) (ci := 8) hx hb hml hown hg hN hK hP hD (q_points l D cI cJ cZ cO (ao, .inl (cJ, 1, .inr (.inl g))) am qo F2 G2 (xs (1 : Int32).toNatClampNeg)) mw_919 mw_920 mw_921 mw_922 mw_348 pdv_X8_points ⟨Nat.le_of_ble_eq_true rfl, Nat.le_of_ble_eq_true rfl⟩ rfl rfl rfl hl.1 rfl (Nat.le_of_ble_eq_true rfl) dL_law_1802 ⟨Nat.le_of_ble_eq_true rfl, Nat.le_of_ble_eq_true rfl⟩) hD hS hA (fun r_4 u_4 H locs hp hP hD hS => ?_)
  obtain ⟨rfl, mn9, ld9, sw9, sm9, qo9, F9m, G9m, rfl⟩ := hp
  refine lv_istore (lv' := [(6, .int 0), (5, .int 1), (0, .ref b), (1, .ref (ad 0)), (2, .ref (am 1)), (3, .ref ao), (4, .int 0)]) hx hb dL_law_1805 hl (by decide) rfl (fun ls hl => ?_)
  refine lv_aload_n hx hb dL_law_1807 rfl (lv_at hl 4 rfl) ?_
  refine kI (rV (q0 := 1) (ci := 8) hx hb hml hown hg hN hK hP hD (m_thrown l D cI cJ cZ cO (ao, .inl (cJ, 1, .inr (.inl g))) am qo9 F9m G9m 1 mn9 ld9 sw9 sm9) mw_670 mw_671 mw_672 mw_673 mw_348 pdv_X8_thrown ⟨Nat.le_of_ble_eq_true rfl, Nat.le_of_ble_eq_true rfl⟩ rfl rfl rfl hl.1 rfl (Nat.le_of_ble_eq_true rfl) dL_law_1808 ⟨Nat.le_of_ble_eq_true rfl, Nat.le_of_ble_eq_true rfl⟩) hD hS hA (fun r_5 u_5 H locs hp hP hD hS => ?_)
  obtain ⟨rfl, rfl⟩ := hp
  refine lv_iload hx hb dL_law_1811 (lv_at hl 1 rfl) ?_
  refine lv_icmp_eq (tgt := 1818) hx hb dL_law_1813 (by decide) (fun c_1813 => ?_) (fun c_1813 => absurd (by decide) c_1813)
  refine lv_iload hx hb dL_law_1818 (lv_at hl 1 rfl) ?_
  refine lv_if_ne (tgt := 1835) hx hb dL_law_1820 (by decide) (fun c_1820 => ?_) (fun c_1820 => absurd c_1820 (by decide))
  refine lv_goto (tgt := 2279) hx hb dL_law_1835 (by decide) ?_
  exact lc_end C0 hAl hbA hS (lv_sub hl [2, 6] rfl) (Nat.le_of_ble_eq_true rfl) (Nat.le_of_ble_eq_true rfl)
set_option maxHeartbeats 4000000 in
set_option maxRecDepth 100000 in
theorem lc_35 {p : Program} {l : Launch} {e : Env} {s : State} {m : MethodId} {below : List Frame} {meth : Method} {c : Code} {b : Nat} {xs : Nat → Int32} {A : Nat → Prop} {H : Heap} {locs : List Loc} {ls : Array Slot} (hfl : l.stackTraces = false) (D : va_G) (cI cJ cZ cO : ClassId) (ad : Nat → Nat) (bf : Nat → Int32) (hb0 : ∀ k, bf k = 0) (F : Nat → Nat → Int32) (G : Nat → Nat → Int64) (ao : Nat) (g : Nat → Int64) (am : Nat → Nat) (qo : Nat) (F2 : Nat → Nat → Int32) (G2 : Nat → Nat → Int64) (C0 : lw_At p s m meth c b 4 xs) (hN : NW s) (hST : ST A s) (hSR : SR s) (hK : va_K D vwCl (TO cI cJ cZ cO) s) (hA : ∀ q, s.heap.size ≤ q → A q) (hAl : ∀ q, A q → s.heap.size ≤ q) (hbA : ¬ A b) (hP : va_P D vwCl (XW ad cI cJ 0 bf F G ++ MW (ao, .inl (cJ, 1, .inr (.inl g))) am cI cJ cZ cO 0 0 0 0 0 qo F2 G2) H) (hD : va_D A (XW ad cI cJ 0 bf F G ++ MW (ao, .inl (cJ, 1, .inr (.inl g))) am cI cJ cZ cO 0 0 0 0 0 qo F2 G2)) (hS : va_S A s.heap H locs) (hl : lv_has ls 9 [(0, .ref b), (1, .ref (ad 0)), (2, .ref (am 1)), (3, .ref ao), (4, .int 0)]) : W p l e room_1 s m #[Value.ref b] below meth c H locs 67 9542 (lw_Z below #[Value.ref b] s) (F0 m 1838 ls []) := by
  obtain ⟨hx, hb, hr, hml, hown, hts, hX, hbl, hlocks, hgv⟩ := id C0
  have hg : ∀ w ∈ GW, w.before #[Value.ref b] s = true := fun w hw => hts w (gw_tbl hw)
  refine lv_aload_n hx hb dL_law_1838 rfl (lv_at hl 1 rfl) ?_
  refine lv_aload_n hx hb dL_law_1839 rfl (lv_at hl 0 rfl) ?_
  refine lv_iload hx hb dL_law_1840 (lv_at hl 4 rfl) ?_
  refine lv_iconst (v := 1) hx hb dL_law_1842 (by decide) ?_
  refine lv_iadd hx hb dL_law_1843 ?_
  refine lv_topi (fun v_1 ev_1 => ?_)
  obtain rfl : v_1 = (1 : Int32) := ev_1.trans (by decide)
  refine va_sld hx hb hX hbl hbA hS (i := 1) (by unfold vp_in; decide) dL_law_1844 ?_
  refine lv_aload_n hx hb dL_law_1845 rfl (lv_at hl 0 rfl) ?_
  refine lv_iload hx hb dL_law_1846 (lv_at hl 4 rfl) ?_
  refine lv_iconst (v := 2) hx hb dL_law_1848 (by decide) ?_
  refine lv_iadd hx hb dL_law_1849 ?_
  refine lv_topi (fun v_2 ev_2 => ?_)
  obtain rfl : v_2 = (2 : Int32) := ev_2.trans (by decide)
  refine va_sld hx hb hX hbl hbA hS (i := 2) (by unfold vp_in; decide) dL_law_1850 ?_
  refine lv_aload_n hx hb dL_law_1851 rfl (lv_at hl 3 rfl) ?_
  refine kI (rSW hx hb hml hown hg hN hK hP hD hST hSR hS hA (h_pointAt l hfl D cI cJ cZ cO ad bf F G ao g am qo F2 G2 (xs (1 : Int32).toNatClampNeg) (xs (2 : Int32).toNatClampNeg)) mw_923 mw_924 mw_925 mw_665 pd_L_pointAt ⟨Nat.le_of_ble_eq_true rfl, Nat.le_of_ble_eq_true rfl⟩ rfl hl.1 rfl (Nat.le_of_ble_eq_true rfl) dL_law_1852 ⟨Nat.le_of_ble_eq_true rfl, Nat.le_of_ble_eq_true rfl⟩) hD hS hA (fun r_3 u_3 H locs hp hP hD hS => ?_)
  obtain ⟨rfl, rfl⟩ := hp
  refine lv_istore (lv' := [(5, .int 1), (0, .ref b), (1, .ref (ad 0)), (2, .ref (am 1)), (3, .ref ao), (4, .int 0)]) hx hb dL_law_1855 hl (by decide) rfl (fun ls hl => ?_)
  refine lv_aload_n hx hb dL_law_1857 rfl (lv_at hl 3 rfl) ?_
  refine lv_aload_n hx hb dL_law_1858 rfl (lv_at hl 1 rfl) ?_
  refine lv_iload hx hb dL_law_1859 (lv_at hl 5 rfl) ?_
  refine lv_iconst (v := 1) hx hb dL_law_1861 (by decide) ?_
  refine lv_iadd hx hb dL_law_1862 ?_
  refine lv_topi (fun v_4 ev_4 => ?_)
  obtain rfl : v_4 = (1 : Int32) := ev_4.trans (by decide)
  refine va_sld hx hb hX hbl hbA hS (i := 1) (by unfold vp_in; decide) dL_law_1863 ?_
  refine lv_aload_n hx hb dL_law_1864 rfl (lv_at hl 1 rfl) ?_
  refine lv_iload hx hb dL_law_1865 (lv_at hl 5 rfl) ?_
  refine lv_iconst (v := 2) hx hb dL_law_1867 (by decide) ?_
  refine lv_iadd hx hb dL_law_1868 ?_
  refine lv_topi (fun v_5 ev_5 => ?_)
  obtain rfl : v_5 = (2 : Int32) := ev_5.trans (by decide)
  refine va_sld hx hb hX hbl hbA hS (i := 2) (by unfold vp_in; decide) dL_law_1869 ?_
  refine kI (rV (q0 := 1) (ci := 8) hx hb hml hown hg hN hK hP hD (q_pointAt l D cI cJ cZ cO (ao, .inl (cJ, 1, .inr (.inl g))) am qo F2 G2 (xs (1 : Int32).toNatClampNeg) (xs (2 : Int32).toNatClampNeg)) mw_926 mw_927 mw_928 mw_929 mw_348 pdv_X8_pointAt ⟨Nat.le_of_ble_eq_true rfl, Nat.le_of_ble_eq_true rfl⟩ rfl rfl rfl hl.1 rfl (Nat.le_of_ble_eq_true rfl) dL_law_1870 ⟨Nat.le_of_ble_eq_true rfl, Nat.le_of_ble_eq_true rfl⟩) hD hS hA (fun r_6 u_6 H locs hp hP hD hS => ?_)
  obtain ⟨rfl, mn9, ld9, sw9, sm9, qo9, F9m, G9m, rfl⟩ := hp
  refine lv_istore (lv' := [(6, .int 0), (5, .int 1), (0, .ref b), (1, .ref (ad 0)), (2, .ref (am 1)), (3, .ref ao), (4, .int 0)]) hx hb dL_law_1873 hl (by decide) rfl (fun ls hl => ?_)
  refine lv_aload_n hx hb dL_law_1875 rfl (lv_at hl 4 rfl) ?_
  refine kI (rV (q0 := 1) (ci := 8) hx hb hml hown hg hN hK hP hD (m_thrown l D cI cJ cZ cO (ao, .inl (cJ, 1, .inr (.inl g))) am qo9 F9m G9m 1 mn9 ld9 sw9 sm9) mw_670 mw_671 mw_672 mw_673 mw_348 pdv_X8_thrown ⟨Nat.le_of_ble_eq_true rfl, Nat.le_of_ble_eq_true rfl⟩ rfl rfl rfl hl.1 rfl (Nat.le_of_ble_eq_true rfl) dL_law_1876 ⟨Nat.le_of_ble_eq_true rfl, Nat.le_of_ble_eq_true rfl⟩) hD hS hA (fun r_7 u_7 H locs hp hP hD hS => ?_)
  obtain ⟨rfl, rfl⟩ := hp
  refine lv_iload hx hb dL_law_1879 (lv_at hl 1 rfl) ?_
  refine lv_icmp_eq (tgt := 1886) hx hb dL_law_1881 (by decide) (fun c_1881 => ?_) (fun c_1881 => absurd (by decide) c_1881)
  refine lv_iload hx hb dL_law_1886 (lv_at hl 1 rfl) ?_
  refine lv_if_ne (tgt := 1903) hx hb dL_law_1888 (by decide) (fun c_1888 => ?_) (fun c_1888 => absurd c_1888 (by decide))
  refine lv_goto (tgt := 2279) hx hb dL_law_1903 (by decide) ?_
  exact lc_end C0 hAl hbA hS (lv_sub hl [2, 6] rfl) (Nat.le_of_ble_eq_true rfl) (Nat.le_of_ble_eq_true rfl)
set_option maxHeartbeats 4000000 in
set_option maxRecDepth 100000 in
theorem lc_36 {p : Program} {l : Launch} {e : Env} {s : State} {m : MethodId} {below : List Frame} {meth : Method} {c : Code} {b : Nat} {xs : Nat → Int32} {A : Nat → Prop} {H : Heap} {locs : List Loc} {ls : Array Slot} (hfl : l.stackTraces = false) (D : va_G) (cI cJ cZ cO : ClassId) (ad : Nat → Nat) (bf : Nat → Int32) (hb0 : ∀ k, bf k = 0) (F : Nat → Nat → Int32) (G : Nat → Nat → Int64) (ao : Nat) (g : Nat → Int64) (am : Nat → Nat) (qo : Nat) (F2 : Nat → Nat → Int32) (G2 : Nat → Nat → Int64) (C0 : lw_At p s m meth c b 4 xs) (hN : NW s) (hST : ST A s) (hSR : SR s) (hK : va_K D vwCl (TO cI cJ cZ cO) s) (hA : ∀ q, s.heap.size ≤ q → A q) (hAl : ∀ q, A q → s.heap.size ≤ q) (hbA : ¬ A b) (hP : va_P D vwCl (XW ad cI cJ 0 bf F G ++ MW (ao, .inl (cJ, 1, .inr (.inl g))) am cI cJ cZ cO 0 0 0 0 0 qo F2 G2) H) (hD : va_D A (XW ad cI cJ 0 bf F G ++ MW (ao, .inl (cJ, 1, .inr (.inl g))) am cI cJ cZ cO 0 0 0 0 0 qo F2 G2)) (hS : va_S A s.heap H locs) (hl : lv_has ls 9 [(0, .ref b), (1, .ref (ad 0)), (2, .ref (am 1)), (3, .ref ao), (4, .int 0)]) : W p l e room_1 s m #[Value.ref b] below meth c H locs 67 9542 (lw_Z below #[Value.ref b] s) (F0 m 1906 ls []) := by
  obtain ⟨hx, hb, hr, hml, hown, hts, hX, hbl, hlocks, hgv⟩ := id C0
  have hg : ∀ w ∈ GW, w.before #[Value.ref b] s = true := fun w hw => hts w (gw_tbl hw)
  refine lv_aload_n hx hb dL_law_1906 rfl (lv_at hl 1 rfl) ?_
  refine lv_aload_n hx hb dL_law_1907 rfl (lv_at hl 0 rfl) ?_
  refine lv_iload hx hb dL_law_1908 (lv_at hl 4 rfl) ?_
  refine lv_iconst (v := 1) hx hb dL_law_1910 (by decide) ?_
  refine lv_iadd hx hb dL_law_1911 ?_
  refine lv_topi (fun v_1 ev_1 => ?_)
  obtain rfl : v_1 = (1 : Int32) := ev_1.trans (by decide)
  refine va_sld hx hb hX hbl hbA hS (i := 1) (by unfold vp_in; decide) dL_law_1912 ?_
  refine lv_aload_n hx hb dL_law_1913 rfl (lv_at hl 3 rfl) ?_
  refine kI (rSW hx hb hml hown hg hN hK hP hD hST hSR hS hA (h_placeOf l hfl D cI cJ cZ cO ad bf F G ao g am qo F2 G2 (xs (1 : Int32).toNatClampNeg)) mw_930 mw_931 mw_932 mw_665 pd_L_placeOf ⟨Nat.le_of_ble_eq_true rfl, Nat.le_of_ble_eq_true rfl⟩ rfl hl.1 rfl (Nat.le_of_ble_eq_true rfl) dL_law_1914 ⟨Nat.le_of_ble_eq_true rfl, Nat.le_of_ble_eq_true rfl⟩) hD hS hA (fun r_2 u_2 H locs hp hP hD hS => ?_)
  obtain ⟨rfl, rfl⟩ := hp
  refine lv_istore (lv' := [(5, .int 1), (0, .ref b), (1, .ref (ad 0)), (2, .ref (am 1)), (3, .ref ao), (4, .int 0)]) hx hb dL_law_1917 hl (by decide) rfl (fun ls hl => ?_)
  refine lv_aload_n hx hb dL_law_1919 rfl (lv_at hl 3 rfl) ?_
  refine lv_aload_n hx hb dL_law_1920 rfl (lv_at hl 1 rfl) ?_
  refine lv_iload hx hb dL_law_1921 (lv_at hl 5 rfl) ?_
  refine lv_iconst (v := 1) hx hb dL_law_1923 (by decide) ?_
  refine lv_iadd hx hb dL_law_1924 ?_
  refine lv_topi (fun v_3 ev_3 => ?_)
  obtain rfl : v_3 = (1 : Int32) := ev_3.trans (by decide)
  refine va_sld hx hb hX hbl hbA hS (i := 1) (by unfold vp_in; decide) dL_law_1925 ?_
  refine kI (rV (q0 := 1) (ci := 8) hx hb hml hown hg hN hK hP hD (q_placeOf l D cI cJ cZ cO (ao, .inl (cJ, 1, .inr (.inl g))) am qo F2 G2 (xs (1 : Int32).toNatClampNeg)) mw_933 mw_934 mw_935 mw_936 mw_348 pdv_X8_placeOf ⟨Nat.le_of_ble_eq_true rfl, Nat.le_of_ble_eq_true rfl⟩ rfl rfl rfl hl.1 rfl (Nat.le_of_ble_eq_true rfl) dL_law_1926 ⟨Nat.le_of_ble_eq_true rfl, Nat.le_of_ble_eq_true rfl⟩) hD hS hA (fun r_4 u_4 H locs hp hP hD hS => ?_)
  obtain ⟨rfl, mn9, ld9, sw9, sm9, qo9, F9m, G9m, rfl⟩ := hp
  refine lv_istore (lv' := [(6, .int 0), (5, .int 1), (0, .ref b), (1, .ref (ad 0)), (2, .ref (am 1)), (3, .ref ao), (4, .int 0)]) hx hb dL_law_1929 hl (by decide) rfl (fun ls hl => ?_)
  refine lv_aload_n hx hb dL_law_1931 rfl (lv_at hl 4 rfl) ?_
  refine kI (rV (q0 := 1) (ci := 8) hx hb hml hown hg hN hK hP hD (m_thrown l D cI cJ cZ cO (ao, .inl (cJ, 1, .inr (.inl g))) am qo9 F9m G9m 1 mn9 ld9 sw9 sm9) mw_670 mw_671 mw_672 mw_673 mw_348 pdv_X8_thrown ⟨Nat.le_of_ble_eq_true rfl, Nat.le_of_ble_eq_true rfl⟩ rfl rfl rfl hl.1 rfl (Nat.le_of_ble_eq_true rfl) dL_law_1932 ⟨Nat.le_of_ble_eq_true rfl, Nat.le_of_ble_eq_true rfl⟩) hD hS hA (fun r_5 u_5 H locs hp hP hD hS => ?_)
  obtain ⟨rfl, rfl⟩ := hp
  refine lv_iload hx hb dL_law_1935 (lv_at hl 1 rfl) ?_
  refine lv_icmp_eq (tgt := 1942) hx hb dL_law_1937 (by decide) (fun c_1937 => ?_) (fun c_1937 => absurd (by decide) c_1937)
  refine lv_iload hx hb dL_law_1942 (lv_at hl 1 rfl) ?_
  refine lv_if_ne (tgt := 1959) hx hb dL_law_1944 (by decide) (fun c_1944 => ?_) (fun c_1944 => absurd c_1944 (by decide))
  refine lv_goto (tgt := 2279) hx hb dL_law_1959 (by decide) ?_
  exact lc_end C0 hAl hbA hS (lv_sub hl [2, 6] rfl) (Nat.le_of_ble_eq_true rfl) (Nat.le_of_ble_eq_true rfl)
set_option maxHeartbeats 4000000 in
set_option maxRecDepth 100000 in
theorem lc_37 {p : Program} {l : Launch} {e : Env} {s : State} {m : MethodId} {below : List Frame} {meth : Method} {c : Code} {b : Nat} {xs : Nat → Int32} {A : Nat → Prop} {H : Heap} {locs : List Loc} {ls : Array Slot} (hfl : l.stackTraces = false) (D : va_G) (cI cJ cZ cO : ClassId) (ad : Nat → Nat) (bf : Nat → Int32) (hb0 : ∀ k, bf k = 0) (F : Nat → Nat → Int32) (G : Nat → Nat → Int64) (ao : Nat) (g : Nat → Int64) (am : Nat → Nat) (qo : Nat) (F2 : Nat → Nat → Int32) (G2 : Nat → Nat → Int64) (C0 : lw_At p s m meth c b 4 xs) (hN : NW s) (hST : ST A s) (hSR : SR s) (hK : va_K D vwCl (TO cI cJ cZ cO) s) (hA : ∀ q, s.heap.size ≤ q → A q) (hAl : ∀ q, A q → s.heap.size ≤ q) (hbA : ¬ A b) (hP : va_P D vwCl (XW ad cI cJ 0 bf F G ++ MW (ao, .inl (cJ, 1, .inr (.inl g))) am cI cJ cZ cO 0 0 0 0 0 qo F2 G2) H) (hD : va_D A (XW ad cI cJ 0 bf F G ++ MW (ao, .inl (cJ, 1, .inr (.inl g))) am cI cJ cZ cO 0 0 0 0 0 qo F2 G2)) (hS : va_S A s.heap H locs) (hl : lv_has ls 9 [(0, .ref b), (1, .ref (ad 0)), (2, .ref (am 1)), (3, .ref ao), (4, .int 0)]) : W p l e room_1 s m #[Value.ref b] below meth c H locs 67 9542 (lw_Z below #[Value.ref b] s) (F0 m 1962 ls []) := by
  obtain ⟨hx, hb, hr, hml, hown, hts, hX, hbl, hlocks, hgv⟩ := id C0
  have hg : ∀ w ∈ GW, w.before #[Value.ref b] s = true := fun w hw => hts w (gw_tbl hw)
  refine lv_aload_n hx hb dL_law_1962 rfl (lv_at hl 1 rfl) ?_
  refine lv_aload_n hx hb dL_law_1963 rfl (lv_at hl 0 rfl) ?_
  refine lv_iload hx hb dL_law_1964 (lv_at hl 4 rfl) ?_
  refine lv_iconst (v := 1) hx hb dL_law_1966 (by decide) ?_
  refine lv_iadd hx hb dL_law_1967 ?_
  refine lv_topi (fun v_1 ev_1 => ?_)
  obtain rfl : v_1 = (1 : Int32) := ev_1.trans (by decide)
  refine va_sld hx hb hX hbl hbA hS (i := 1) (by unfold vp_in; decide) dL_law_1968 ?_
  refine lv_aload_n hx hb dL_law_1969 rfl (lv_at hl 3 rfl) ?_
  refine kI (rSW hx hb hml hown hg hN hK hP hD hST hSR hS hA (h_bends l hfl D cI cJ cZ cO ad bf F G ao g am qo F2 G2 (xs (1 : Int32).toNatClampNeg)) mw_937 mw_938 mw_939 mw_665 pd_L_bends ⟨Nat.le_of_ble_eq_true rfl, Nat.le_of_ble_eq_true rfl⟩ rfl hl.1 rfl (Nat.le_of_ble_eq_true rfl) dL_law_1970 ⟨Nat.le_of_ble_eq_true rfl, Nat.le_of_ble_eq_true rfl⟩) hD hS hA (fun r_2 u_2 H locs hp hP hD hS => ?_)
  obtain ⟨rfl, rfl⟩ := hp
  refine lv_istore (lv' := [(5, .int 1), (0, .ref b), (1, .ref (ad 0)), (2, .ref (am 1)), (3, .ref ao), (4, .int 0)]) hx hb dL_law_1973 hl (by decide) rfl (fun ls hl => ?_)
  refine lv_aload_n hx hb dL_law_1975 rfl (lv_at hl 3 rfl) ?_
  refine lv_aload_n hx hb dL_law_1976 rfl (lv_at hl 1 rfl) ?_
  refine lv_iload hx hb dL_law_1977 (lv_at hl 5 rfl) ?_
  refine lv_iconst (v := 1) hx hb dL_law_1979 (by decide) ?_
  refine lv_iadd hx hb dL_law_1980 ?_
  refine lv_topi (fun v_3 ev_3 => ?_)
  obtain rfl : v_3 = (1 : Int32) := ev_3.trans (by decide)
  refine va_sld hx hb hX hbl hbA hS (i := 1) (by unfold vp_in; decide) dL_law_1981 ?_
  refine kI (rV (q0 := 1) (ci := 8) hx hb hml hown hg hN hK hP hD (q_bends l D cI cJ cZ cO (ao, .inl (cJ, 1, .inr (.inl g))) am qo F2 G2 (xs (1 : Int32).toNatClampNeg)) mw_940 mw_941 mw_942 mw_943 mw_348 pdv_X8_bends ⟨Nat.le_of_ble_eq_true rfl, Nat.le_of_ble_eq_true rfl⟩ rfl rfl rfl hl.1 rfl (Nat.le_of_ble_eq_true rfl) dL_law_1982 ⟨Nat.le_of_ble_eq_true rfl, Nat.le_of_ble_eq_true rfl⟩) hD hS hA (fun r_4 u_4 H locs hp hP hD hS => ?_)
  obtain ⟨rfl, mn9, ld9, sw9, sm9, qo9, F9m, G9m, rfl⟩ := hp
  refine lv_istore (lv' := [(6, .int 0), (5, .int 1), (0, .ref b), (1, .ref (ad 0)), (2, .ref (am 1)), (3, .ref ao), (4, .int 0)]) hx hb dL_law_1985 hl (by decide) rfl (fun ls hl => ?_)
  refine lv_aload_n hx hb dL_law_1987 rfl (lv_at hl 4 rfl) ?_
  refine kI (rV (q0 := 1) (ci := 8) hx hb hml hown hg hN hK hP hD (m_thrown l D cI cJ cZ cO (ao, .inl (cJ, 1, .inr (.inl g))) am qo9 F9m G9m 1 mn9 ld9 sw9 sm9) mw_670 mw_671 mw_672 mw_673 mw_348 pdv_X8_thrown ⟨Nat.le_of_ble_eq_true rfl, Nat.le_of_ble_eq_true rfl⟩ rfl rfl rfl hl.1 rfl (Nat.le_of_ble_eq_true rfl) dL_law_1988 ⟨Nat.le_of_ble_eq_true rfl, Nat.le_of_ble_eq_true rfl⟩) hD hS hA (fun r_5 u_5 H locs hp hP hD hS => ?_)
  obtain ⟨rfl, rfl⟩ := hp
  refine lv_iload hx hb dL_law_1991 (lv_at hl 1 rfl) ?_
  refine lv_icmp_eq (tgt := 1998) hx hb dL_law_1993 (by decide) (fun c_1993 => ?_) (fun c_1993 => absurd (by decide) c_1993)
  refine lv_iload hx hb dL_law_1998 (lv_at hl 1 rfl) ?_
  refine lv_if_ne (tgt := 2015) hx hb dL_law_2000 (by decide) (fun c_2000 => ?_) (fun c_2000 => absurd c_2000 (by decide))
  refine lv_goto (tgt := 2279) hx hb dL_law_2015 (by decide) ?_
  exact lc_end C0 hAl hbA hS (lv_sub hl [2, 6] rfl) (Nat.le_of_ble_eq_true rfl) (Nat.le_of_ble_eq_true rfl)
set_option maxHeartbeats 4000000 in
set_option maxRecDepth 100000 in
theorem lc_38 {p : Program} {l : Launch} {e : Env} {s : State} {m : MethodId} {below : List Frame} {meth : Method} {c : Code} {b : Nat} {xs : Nat → Int32} {A : Nat → Prop} {H : Heap} {locs : List Loc} {ls : Array Slot} (hfl : l.stackTraces = false) (D : va_G) (cI cJ cZ cO : ClassId) (ad : Nat → Nat) (bf : Nat → Int32) (hb0 : ∀ k, bf k = 0) (F : Nat → Nat → Int32) (G : Nat → Nat → Int64) (ao : Nat) (g : Nat → Int64) (am : Nat → Nat) (qo : Nat) (F2 : Nat → Nat → Int32) (G2 : Nat → Nat → Int64) (C0 : lw_At p s m meth c b 4 xs) (hN : NW s) (hST : ST A s) (hSR : SR s) (hK : va_K D vwCl (TO cI cJ cZ cO) s) (hA : ∀ q, s.heap.size ≤ q → A q) (hAl : ∀ q, A q → s.heap.size ≤ q) (hbA : ¬ A b) (hP : va_P D vwCl (XW ad cI cJ 0 bf F G ++ MW (ao, .inl (cJ, 1, .inr (.inl g))) am cI cJ cZ cO 0 0 0 0 0 qo F2 G2) H) (hD : va_D A (XW ad cI cJ 0 bf F G ++ MW (ao, .inl (cJ, 1, .inr (.inl g))) am cI cJ cZ cO 0 0 0 0 0 qo F2 G2)) (hS : va_S A s.heap H locs) (hl : lv_has ls 9 [(0, .ref b), (1, .ref (ad 0)), (2, .ref (am 1)), (3, .ref ao), (4, .int 0)]) : W p l e room_1 s m #[Value.ref b] below meth c H locs 67 9542 (lw_Z below #[Value.ref b] s) (F0 m 2018 ls []) := by
  obtain ⟨hx, hb, hr, hml, hown, hts, hX, hbl, hlocks, hgv⟩ := id C0
  have hg : ∀ w ∈ GW, w.before #[Value.ref b] s = true := fun w hw => hts w (gw_tbl hw)
  refine lv_aload_n hx hb dL_law_2018 rfl (lv_at hl 1 rfl) ?_
  refine lv_aload_n hx hb dL_law_2019 rfl (lv_at hl 0 rfl) ?_
  refine lv_iload hx hb dL_law_2020 (lv_at hl 4 rfl) ?_
  refine lv_iconst (v := 1) hx hb dL_law_2022 (by decide) ?_
  refine lv_iadd hx hb dL_law_2023 ?_
  refine lv_topi (fun v_1 ev_1 => ?_)
  obtain rfl : v_1 = (1 : Int32) := ev_1.trans (by decide)
  refine va_sld hx hb hX hbl hbA hS (i := 1) (by unfold vp_in; decide) dL_law_2024 ?_
  refine lv_aload_n hx hb dL_law_2025 rfl (lv_at hl 0 rfl) ?_
  refine lv_iload hx hb dL_law_2026 (lv_at hl 4 rfl) ?_
  refine lv_iconst (v := 2) hx hb dL_law_2028 (by decide) ?_
  refine lv_iadd hx hb dL_law_2029 ?_
  refine lv_topi (fun v_2 ev_2 => ?_)
  obtain rfl : v_2 = (2 : Int32) := ev_2.trans (by decide)
  refine va_sld hx hb hX hbl hbA hS (i := 2) (by unfold vp_in; decide) dL_law_2030 ?_
  refine lv_aload_n hx hb dL_law_2031 rfl (lv_at hl 3 rfl) ?_
  refine kI (rSW hx hb hml hown hg hN hK hP hD hST hSR hS hA (h_bendAt l hfl D cI cJ cZ cO ad bf F G ao g am qo F2 G2 (xs (1 : Int32).toNatClampNeg) (xs (2 : Int32).toNatClampNeg)) mw_944 mw_945 mw_946 mw_665 pd_L_bendAt ⟨Nat.le_of_ble_eq_true rfl, Nat.le_of_ble_eq_true rfl⟩ rfl hl.1 rfl (Nat.le_of_ble_eq_true rfl) dL_law_2032 ⟨Nat.le_of_ble_eq_true rfl, Nat.le_of_ble_eq_true rfl⟩) hD hS hA (fun r_3 u_3 H locs hp hP hD hS => ?_)
  obtain ⟨rfl, rfl⟩ := hp
  refine lv_istore (lv' := [(5, .int 1), (0, .ref b), (1, .ref (ad 0)), (2, .ref (am 1)), (3, .ref ao), (4, .int 0)]) hx hb dL_law_2035 hl (by decide) rfl (fun ls hl => ?_)
  refine lv_aload_n hx hb dL_law_2037 rfl (lv_at hl 3 rfl) ?_
  refine lv_aload_n hx hb dL_law_2038 rfl (lv_at hl 1 rfl) ?_
  refine lv_iload hx hb dL_law_2039 (lv_at hl 5 rfl) ?_
  refine lv_iconst (v := 1) hx hb dL_law_2041 (by decide) ?_
  refine lv_iadd hx hb dL_law_2042 ?_
  refine lv_topi (fun v_4 ev_4 => ?_)
  obtain rfl : v_4 = (1 : Int32) := ev_4.trans (by decide)
  refine va_sld hx hb hX hbl hbA hS (i := 1) (by unfold vp_in; decide) dL_law_2043 ?_
  refine lv_aload_n hx hb dL_law_2044 rfl (lv_at hl 1 rfl) ?_
  refine lv_iload hx hb dL_law_2045 (lv_at hl 5 rfl) ?_
  refine lv_iconst (v := 2) hx hb dL_law_2047 (by decide) ?_
  refine lv_iadd hx hb dL_law_2048 ?_
  refine lv_topi (fun v_5 ev_5 => ?_)
  obtain rfl : v_5 = (2 : Int32) := ev_5.trans (by decide)
  refine va_sld hx hb hX hbl hbA hS (i := 2) (by unfold vp_in; decide) dL_law_2049 ?_
  refine kI (rV (q0 := 1) (ci := 8) hx hb hml hown hg hN hK hP hD (q_bendAt l D cI cJ cZ cO (ao, .inl (cJ, 1, .inr (.inl g))) am qo F2 G2 (xs (1 : Int32).toNatClampNeg) (xs (2 : Int32).toNatClampNeg)) mw_947 mw_948 mw_949 mw_950 mw_348 pdv_X8_bendAt ⟨Nat.le_of_ble_eq_true rfl, Nat.le_of_ble_eq_true rfl⟩ rfl rfl rfl hl.1 rfl (Nat.le_of_ble_eq_true rfl) dL_law_2050 ⟨Nat.le_of_ble_eq_true rfl, Nat.le_of_ble_eq_true rfl⟩) hD hS hA (fun r_6 u_6 H locs hp hP hD hS => ?_)
  obtain ⟨rfl, mn9, ld9, sw9, sm9, qo9, F9m, G9m, rfl⟩ := hp
  refine lv_istore (lv' := [(6, .int 0), (5, .int 1), (0, .ref b), (1, .ref (ad 0)), (2, .ref (am 1)), (3, .ref ao), (4, .int 0)]) hx hb dL_law_2053 hl (by decide) rfl (fun ls hl => ?_)
  refine lv_aload_n hx hb dL_law_2055 rfl (lv_at hl 4 rfl) ?_
  refine kI (rV (q0 := 1) (ci := 8) hx hb hml hown hg hN hK hP hD (m_thrown l D cI cJ cZ cO (ao, .inl (cJ, 1, .inr (.inl g))) am qo9 F9m G9m 1 mn9 ld9 sw9 sm9) mw_670 mw_671 mw_672 mw_673 mw_348 pdv_X8_thrown ⟨Nat.le_of_ble_eq_true rfl, Nat.le_of_ble_eq_true rfl⟩ rfl rfl rfl hl.1 rfl (Nat.le_of_ble_eq_true rfl) dL_law_2056 ⟨Nat.le_of_ble_eq_true rfl, Nat.le_of_ble_eq_true rfl⟩) hD hS hA (fun r_7 u_7 H locs hp hP hD hS => ?_)
  obtain ⟨rfl, rfl⟩ := hp
  refine lv_iload hx hb dL_law_2059 (lv_at hl 1 rfl) ?_
  refine lv_icmp_eq (tgt := 2066) hx hb dL_law_2061 (by decide) (fun c_2061 => ?_) (fun c_2061 => absurd (by decide) c_2061)
  refine lv_iload hx hb dL_law_2066 (lv_at hl 1 rfl) ?_
  refine lv_if_ne (tgt := 2083) hx hb dL_law_2068 (by decide) (fun c_2068 => ?_) (fun c_2068 => absurd c_2068 (by decide))
  refine lv_goto (tgt := 2279) hx hb dL_law_2083 (by decide) ?_
  exact lc_end C0 hAl hbA hS (lv_sub hl [2, 6] rfl) (Nat.le_of_ble_eq_true rfl) (Nat.le_of_ble_eq_true rfl)
set_option maxHeartbeats 4000000 in
set_option maxRecDepth 100000 in
theorem lc_39 {p : Program} {l : Launch} {e : Env} {s : State} {m : MethodId} {below : List Frame} {meth : Method} {c : Code} {b : Nat} {xs : Nat → Int32} {A : Nat → Prop} {H : Heap} {locs : List Loc} {ls : Array Slot} (hfl : l.stackTraces = false) (D : va_G) (cI cJ cZ cO : ClassId) (ad : Nat → Nat) (bf : Nat → Int32) (hb0 : ∀ k, bf k = 0) (F : Nat → Nat → Int32) (G : Nat → Nat → Int64) (ao : Nat) (g : Nat → Int64) (am : Nat → Nat) (qo : Nat) (F2 : Nat → Nat → Int32) (G2 : Nat → Nat → Int64) (C0 : lw_At p s m meth c b 4 xs) (hN : NW s) (hST : ST A s) (hSR : SR s) (hK : va_K D vwCl (TO cI cJ cZ cO) s) (hA : ∀ q, s.heap.size ≤ q → A q) (hAl : ∀ q, A q → s.heap.size ≤ q) (hbA : ¬ A b) (hP : va_P D vwCl (XW ad cI cJ 0 bf F G ++ MW (ao, .inl (cJ, 1, .inr (.inl g))) am cI cJ cZ cO 0 0 0 0 0 qo F2 G2) H) (hD : va_D A (XW ad cI cJ 0 bf F G ++ MW (ao, .inl (cJ, 1, .inr (.inl g))) am cI cJ cZ cO 0 0 0 0 0 qo F2 G2)) (hS : va_S A s.heap H locs) (hl : lv_has ls 9 [(0, .ref b), (1, .ref (ad 0)), (2, .ref (am 1)), (3, .ref ao), (4, .int 0)]) : W p l e room_1 s m #[Value.ref b] below meth c H locs 67 9542 (lw_Z below #[Value.ref b] s) (F0 m 2086 ls []) := by
  obtain ⟨hx, hb, hr, hml, hown, hts, hX, hbl, hlocks, hgv⟩ := id C0
  have hg : ∀ w ∈ GW, w.before #[Value.ref b] s = true := fun w hw => hts w (gw_tbl hw)
  refine lv_aload_n hx hb dL_law_2086 rfl (lv_at hl 1 rfl) ?_
  refine kI (rV (q0 := 0) (ci := 7) hx hb hml hown hg hN (hK.sub (tys' := TY cI cJ cZ) [0, 1, 2] rfl) hP hD (p_crossings l D cI cJ cZ ad bf F G (MW (ao, .inl (cJ, 1, .inr (.inl g))) am cI cJ cZ cO 0 0 0 0 0 qo F2 G2) hb0) mw_951 mw_952 mw_953 mw_954 mw_110 pdv_X7_crossings ⟨Nat.le_of_ble_eq_true rfl, Nat.le_of_ble_eq_true rfl⟩ rfl rfl rfl hl.1 rfl (Nat.le_of_ble_eq_true rfl) dL_law_2087 ⟨Nat.le_of_ble_eq_true rfl, Nat.le_of_ble_eq_true rfl⟩) hD hS hA (fun r_1 u_1 H locs hp hP hD hS => ?_)
  obtain ⟨rfl, n9, b9, F9, G9, rfl⟩ := hp
  have hP : va_P D vwCl (MW (ao, .inl (cJ, 1, .inr (.inl g))) am cI cJ cZ cO 0 0 0 0 0 qo F2 G2) H := appRP hP
  have hD : va_D A (MW (ao, .inl (cJ, 1, .inr (.inl g))) am cI cJ cZ cO 0 0 0 0 0 qo F2 G2) := appRD hD
  refine lv_aload_n hx hb dL_law_2090 rfl (lv_at hl 2 rfl) ?_
  refine kI (rV (q0 := 1) (ci := 8) hx hb hml hown hg hN hK hP hD (q_crossings l D cI cJ cZ cO (ao, .inl (cJ, 1, .inr (.inl g))) am qo F2 G2 ) mw_955 mw_956 mw_957 mw_958 mw_348 pdv_X8_crossings ⟨Nat.le_of_ble_eq_true rfl, Nat.le_of_ble_eq_true rfl⟩ rfl rfl rfl hl.1 rfl (Nat.le_of_ble_eq_true rfl) dL_law_2091 ⟨Nat.le_of_ble_eq_true rfl, Nat.le_of_ble_eq_true rfl⟩) hD hS hA (fun r_2 u_2 H locs hp hP hD hS => ?_)
  obtain ⟨rfl, mn9, ld9, sw9, sm9, qo9, F9m, G9m, rfl⟩ := hp
  refine lv_icmp_eq (tgt := 2279) hx hb dL_law_2094 (by decide) (fun c_2094 => ?_) (fun c_2094 => absurd (by decide) c_2094)
  exact lc_end C0 hAl hbA hS (lv_sub hl [0, 4] rfl) (Nat.le_of_ble_eq_true rfl) (Nat.le_of_ble_eq_true rfl)
set_option maxHeartbeats 4000000 in
set_option maxRecDepth 100000 in
theorem lc_40 {p : Program} {l : Launch} {e : Env} {s : State} {m : MethodId} {below : List Frame} {meth : Method} {c : Code} {b : Nat} {xs : Nat → Int32} {A : Nat → Prop} {H : Heap} {locs : List Loc} {ls : Array Slot} (hfl : l.stackTraces = false) (D : va_G) (cI cJ cZ cO : ClassId) (ad : Nat → Nat) (bf : Nat → Int32) (hb0 : ∀ k, bf k = 0) (F : Nat → Nat → Int32) (G : Nat → Nat → Int64) (ao : Nat) (g : Nat → Int64) (am : Nat → Nat) (qo : Nat) (F2 : Nat → Nat → Int32) (G2 : Nat → Nat → Int64) (C0 : lw_At p s m meth c b 4 xs) (hN : NW s) (hST : ST A s) (hSR : SR s) (hK : va_K D vwCl (TO cI cJ cZ cO) s) (hA : ∀ q, s.heap.size ≤ q → A q) (hAl : ∀ q, A q → s.heap.size ≤ q) (hbA : ¬ A b) (hP : va_P D vwCl (XW ad cI cJ 0 bf F G ++ MW (ao, .inl (cJ, 1, .inr (.inl g))) am cI cJ cZ cO 0 0 0 0 0 qo F2 G2) H) (hD : va_D A (XW ad cI cJ 0 bf F G ++ MW (ao, .inl (cJ, 1, .inr (.inl g))) am cI cJ cZ cO 0 0 0 0 0 qo F2 G2)) (hS : va_S A s.heap H locs) (hl : lv_has ls 9 [(0, .ref b), (1, .ref (ad 0)), (2, .ref (am 1)), (3, .ref ao), (4, .int 0)]) : W p l e room_1 s m #[Value.ref b] below meth c H locs 67 9542 (lw_Z below #[Value.ref b] s) (F0 m 2099 ls []) := by
  obtain ⟨hx, hb, hr, hml, hown, hts, hX, hbl, hlocks, hgv⟩ := id C0
  have hg : ∀ w ∈ GW, w.before #[Value.ref b] s = true := fun w hw => hts w (gw_tbl hw)
  refine lv_aload_n hx hb dL_law_2099 rfl (lv_at hl 1 rfl) ?_
  refine lv_aload_n hx hb dL_law_2100 rfl (lv_at hl 0 rfl) ?_
  refine lv_iload hx hb dL_law_2101 (lv_at hl 4 rfl) ?_
  refine lv_iconst (v := 1) hx hb dL_law_2103 (by decide) ?_
  refine lv_iadd hx hb dL_law_2104 ?_
  refine lv_topi (fun v_1 ev_1 => ?_)
  obtain rfl : v_1 = (1 : Int32) := ev_1.trans (by decide)
  refine va_sld hx hb hX hbl hbA hS (i := 1) (by unfold vp_in; decide) dL_law_2105 ?_
  refine lv_aload_n hx hb dL_law_2106 rfl (lv_at hl 3 rfl) ?_
  refine kI (rSW hx hb hml hown hg hN hK hP hD hST hSR hS hA (h_sweep l hfl D cI cJ cZ cO ad bf F G ao g am qo F2 G2 hb0 (xs (1 : Int32).toNatClampNeg)) mw_959 mw_960 mw_961 mw_665 pd_L_sweep ⟨Nat.le_of_ble_eq_true rfl, Nat.le_of_ble_eq_true rfl⟩ rfl hl.1 rfl (Nat.le_of_ble_eq_true rfl) dL_law_2107 ⟨Nat.le_of_ble_eq_true rfl, Nat.le_of_ble_eq_true rfl⟩) hD hS hA (fun r_2 u_2 H locs hp hP hD hS => ?_)
  obtain ⟨g9, hh, rfl⟩ := hp
  refine lv_istore (lv' := [(5, .int r_2), (0, .ref b), (1, .ref (ad 0)), (2, .ref (am 1)), (3, .ref ao), (4, .int 0)]) hx hb dL_law_2110 hl (by decide) rfl (fun ls hl => ?_)
  refine lv_aload_n hx hb dL_law_2112 rfl (lv_at hl 3 rfl) ?_
  refine lv_aload_n hx hb dL_law_2113 rfl (lv_at hl 1 rfl) ?_
  refine lv_iload hx hb dL_law_2114 (lv_at hl 5 rfl) ?_
  refine lv_iconst (v := 1) hx hb dL_law_2116 (by decide) ?_
  refine lv_iadd hx hb dL_law_2117 ?_
  refine lv_topi (fun v_3 ev_3 => ?_)
  obtain rfl : v_3 = (1 : Int32) := ev_3.trans (by decide)
  refine va_sld hx hb hX hbl hbA hS (i := 1) (by unfold vp_in; decide) dL_law_2118 ?_
  refine kI (rV (q0 := 1) (ci := 8) hx hb hml hown hg hN hK hP hD (q_sweep l D cI cJ cZ cO (ao, .inl (cJ, 1, .inr (.inl g9))) am qo F2 G2 (xs (1 : Int32).toNatClampNeg)) mw_962 mw_963 mw_964 mw_965 mw_348 pdv_X8_sweep ⟨Nat.le_of_ble_eq_true rfl, Nat.le_of_ble_eq_true rfl⟩ rfl rfl rfl hl.1 rfl (Nat.le_of_ble_eq_true rfl) dL_law_2119 ⟨Nat.le_of_ble_eq_true rfl, Nat.le_of_ble_eq_true rfl⟩) hD hS hA (fun r_4 u_4 H locs hp hP hD hS => ?_)
  obtain ⟨th9, hm, mn9, ld9, sw9, sm9, qo9, F9m, G9m, rfl⟩ := hp
  rcases hh with ⟨ok, rfl, hg0⟩ | ⟨nok, rfl⟩
  · obtain ⟨hr2, ht2⟩ : r_4 = 0 ∧ th9 = 0 := hm.elim (fun h9 => h9.2) (fun h9 => False.elim (h9.1.elim (fun z => ok.1 z) (fun z => z ok.2)))
    subst hr2; subst ht2
    have hl : lv_has ls 9 [(5, .int 0), (0, .ref b), (1, .ref (ad 0)), (2, .ref (am 1)), (3, .ref ao), (4, .int 0)] := hl
    refine lv_istore (lv' := [(6, .int 0), (5, .int 0), (0, .ref b), (1, .ref (ad 0)), (2, .ref (am 1)), (3, .ref ao), (4, .int 0)]) hx hb dL_law_2122 hl (by decide) rfl (fun ls hl => ?_)
    refine lv_aload_n hx hb dL_law_2124 rfl (lv_at hl 4 rfl) ?_
    refine kI (rV (q0 := 1) (ci := 8) hx hb hml hown hg hN hK hP hD (m_thrown l D cI cJ cZ cO (ao, .inl (cJ, 1, .inr (.inl g9))) am qo9 F9m G9m 0 mn9 ld9 sw9 sm9) mw_670 mw_671 mw_672 mw_673 mw_348 pdv_X8_thrown ⟨Nat.le_of_ble_eq_true rfl, Nat.le_of_ble_eq_true rfl⟩ rfl rfl rfl hl.1 rfl (Nat.le_of_ble_eq_true rfl) dL_law_2125 ⟨Nat.le_of_ble_eq_true rfl, Nat.le_of_ble_eq_true rfl⟩) hD hS hA (fun r_5 u_5 H locs hp hP hD hS => ?_)
    obtain ⟨rfl, rfl⟩ := hp
    refine lv_iload hx hb dL_law_2128 (lv_at hl 1 rfl) ?_
    refine lv_icmp_eq (tgt := 2135) hx hb dL_law_2130 (by decide) (fun c_2130 => ?_) (fun c_2130 => absurd (by decide) c_2130)
    refine lv_iload hx hb dL_law_2135 (lv_at hl 1 rfl) ?_
    refine lv_if_ne (tgt := 2152) hx hb dL_law_2137 (by decide) (fun c_2137 => absurd (by decide) c_2137) (fun c_2137 => ?_)
    refine lv_aload_n hx hb dL_law_2140 rfl (lv_at hl 5 rfl) ?_
    refine lv_iconst (v := 0) hx hb dL_law_2141 (by decide) ?_
    refine va_lald hx hb hK hP 0 1 rfl rfl (by unfold vp_in; decide) dL_law_2142 ?_
    rw [show g9 (0 : Int32).toNatClampNeg = 0 from hg0]
    refine lv_iload hx hb dL_law_2143 (lv_at hl 0 rfl) ?_
    refine lv_i2l (v := 0) hx hb dL_law_2145 (by decide) ?_
    refine W.lcmp hx hb dL_law_2146 ?_
    refine lv_topi (fun v_6 ev_6 => ?_)
    obtain rfl : v_6 = (0 : Int32) := ev_6.trans (by decide)
    refine lv_if_eq (tgt := 2152) hx hb dL_law_2147 (by decide) (fun c_2147 => ?_) (fun c_2147 => absurd (by decide) c_2147)
    refine lv_goto (tgt := 2279) hx hb dL_law_2152 (by decide) ?_
    exact lc_end C0 hAl hbA hS (lv_sub hl [2, 6] rfl) (Nat.le_of_ble_eq_true rfl) (Nat.le_of_ble_eq_true rfl)
  · obtain ht2 : th9 = 1 := hm.elim (fun h9 => False.elim (nok.elim (fun z => h9.1.1 z) (fun z => z h9.1.2))) (fun h9 => h9.2)
    subst ht2
    have hl : lv_has ls 9 [(5, .int 1), (0, .ref b), (1, .ref (ad 0)), (2, .ref (am 1)), (3, .ref ao), (4, .int 0)] := hl
    refine lv_istore (lv' := [(6, .int r_4), (5, .int 1), (0, .ref b), (1, .ref (ad 0)), (2, .ref (am 1)), (3, .ref ao), (4, .int 0)]) hx hb dL_law_2122 hl (by decide) rfl (fun ls hl => ?_)
    refine lv_aload_n hx hb dL_law_2124 rfl (lv_at hl 4 rfl) ?_
    refine kI (rV (q0 := 1) (ci := 8) hx hb hml hown hg hN hK hP hD (m_thrown l D cI cJ cZ cO (ao, .inl (cJ, 1, .inr (.inl g9))) am qo9 F9m G9m 1 mn9 ld9 sw9 sm9) mw_670 mw_671 mw_672 mw_673 mw_348 pdv_X8_thrown ⟨Nat.le_of_ble_eq_true rfl, Nat.le_of_ble_eq_true rfl⟩ rfl rfl rfl hl.1 rfl (Nat.le_of_ble_eq_true rfl) dL_law_2125 ⟨Nat.le_of_ble_eq_true rfl, Nat.le_of_ble_eq_true rfl⟩) hD hS hA (fun r_7 u_7 H locs hp hP hD hS => ?_)
    obtain ⟨rfl, rfl⟩ := hp
    refine lv_iload hx hb dL_law_2128 (lv_at hl 1 rfl) ?_
    refine lv_icmp_eq (tgt := 2135) hx hb dL_law_2130 (by decide) (fun c_2130 => ?_) (fun c_2130 => absurd (by decide) c_2130)
    refine lv_iload hx hb dL_law_2135 (lv_at hl 1 rfl) ?_
    refine lv_if_ne (tgt := 2152) hx hb dL_law_2137 (by decide) (fun c_2137 => ?_) (fun c_2137 => absurd c_2137 (by decide))
    refine lv_goto (tgt := 2279) hx hb dL_law_2152 (by decide) ?_
    exact lc_end C0 hAl hbA hS (lv_sub hl [2, 6] rfl) (Nat.le_of_ble_eq_true rfl) (Nat.le_of_ble_eq_true rfl)
set_option maxHeartbeats 4000000 in
set_option maxRecDepth 100000 in
theorem lc_41 {p : Program} {l : Launch} {e : Env} {s : State} {m : MethodId} {below : List Frame} {meth : Method} {c : Code} {b : Nat} {xs : Nat → Int32} {A : Nat → Prop} {H : Heap} {locs : List Loc} {ls : Array Slot} (hfl : l.stackTraces = false) (D : va_G) (cI cJ cZ cO : ClassId) (ad : Nat → Nat) (bf : Nat → Int32) (hb0 : ∀ k, bf k = 0) (F : Nat → Nat → Int32) (G : Nat → Nat → Int64) (ao : Nat) (g : Nat → Int64) (am : Nat → Nat) (qo : Nat) (F2 : Nat → Nat → Int32) (G2 : Nat → Nat → Int64) (C0 : lw_At p s m meth c b 4 xs) (hN : NW s) (hST : ST A s) (hSR : SR s) (hK : va_K D vwCl (TO cI cJ cZ cO) s) (hA : ∀ q, s.heap.size ≤ q → A q) (hAl : ∀ q, A q → s.heap.size ≤ q) (hbA : ¬ A b) (hP : va_P D vwCl (XW ad cI cJ 0 bf F G ++ MW (ao, .inl (cJ, 1, .inr (.inl g))) am cI cJ cZ cO 0 0 0 0 0 qo F2 G2) H) (hD : va_D A (XW ad cI cJ 0 bf F G ++ MW (ao, .inl (cJ, 1, .inr (.inl g))) am cI cJ cZ cO 0 0 0 0 0 qo F2 G2)) (hS : va_S A s.heap H locs) (hl : lv_has ls 9 [(0, .ref b), (1, .ref (ad 0)), (2, .ref (am 1)), (3, .ref ao), (4, .int 0)]) : W p l e room_1 s m #[Value.ref b] below meth c H locs 67 9542 (lw_Z below #[Value.ref b] s) (F0 m 2155 ls []) := by
  obtain ⟨hx, hb, hr, hml, hown, hts, hX, hbl, hlocks, hgv⟩ := id C0
  have hg : ∀ w ∈ GW, w.before #[Value.ref b] s = true := fun w hw => hts w (gw_tbl hw)
  refine lv_aload_n hx hb dL_law_2155 rfl (lv_at hl 1 rfl) ?_
  refine lv_aload_n hx hb dL_law_2156 rfl (lv_at hl 0 rfl) ?_
  refine lv_iload hx hb dL_law_2157 (lv_at hl 4 rfl) ?_
  refine lv_iconst (v := 1) hx hb dL_law_2159 (by decide) ?_
  refine lv_iadd hx hb dL_law_2160 ?_
  refine lv_topi (fun v_1 ev_1 => ?_)
  obtain rfl : v_1 = (1 : Int32) := ev_1.trans (by decide)
  refine va_sld hx hb hX hbl hbA hS (i := 1) (by unfold vp_in; decide) dL_law_2161 ?_
  refine lv_aload_n hx hb dL_law_2162 rfl (lv_at hl 3 rfl) ?_
  refine kI (rSW hx hb hml hown hg hN hK hP hD hST hSR hS hA (h_wouldCross l hfl D cI cJ cZ cO ad bf F G ao g am qo F2 G2 hb0 (xs (1 : Int32).toNatClampNeg)) mw_966 mw_967 mw_968 mw_665 pd_L_wouldCross ⟨Nat.le_of_ble_eq_true rfl, Nat.le_of_ble_eq_true rfl⟩ rfl hl.1 rfl (Nat.le_of_ble_eq_true rfl) dL_law_2163 ⟨Nat.le_of_ble_eq_true rfl, Nat.le_of_ble_eq_true rfl⟩) hD hS hA (fun r_2 u_2 H locs hp hP hD hS => ?_)
  obtain ⟨g9, hh, rfl⟩ := hp
  refine lv_istore (lv' := [(5, .int r_2), (0, .ref b), (1, .ref (ad 0)), (2, .ref (am 1)), (3, .ref ao), (4, .int 0)]) hx hb dL_law_2166 hl (by decide) rfl (fun ls hl => ?_)
  refine lv_aload_n hx hb dL_law_2168 rfl (lv_at hl 3 rfl) ?_
  refine lv_aload_n hx hb dL_law_2169 rfl (lv_at hl 1 rfl) ?_
  refine lv_iload hx hb dL_law_2170 (lv_at hl 5 rfl) ?_
  refine lv_iconst (v := 1) hx hb dL_law_2172 (by decide) ?_
  refine lv_iadd hx hb dL_law_2173 ?_
  refine lv_topi (fun v_3 ev_3 => ?_)
  obtain rfl : v_3 = (1 : Int32) := ev_3.trans (by decide)
  refine va_sld hx hb hX hbl hbA hS (i := 1) (by unfold vp_in; decide) dL_law_2174 ?_
  refine kI (rV (q0 := 1) (ci := 8) hx hb hml hown hg hN hK hP hD (q_wouldCross l D cI cJ cZ cO (ao, .inl (cJ, 1, .inr (.inl g9))) am qo F2 G2 (xs (1 : Int32).toNatClampNeg)) mw_969 mw_970 mw_971 mw_972 mw_348 pdv_X8_wouldCross ⟨Nat.le_of_ble_eq_true rfl, Nat.le_of_ble_eq_true rfl⟩ rfl rfl rfl hl.1 rfl (Nat.le_of_ble_eq_true rfl) dL_law_2175 ⟨Nat.le_of_ble_eq_true rfl, Nat.le_of_ble_eq_true rfl⟩) hD hS hA (fun r_4 u_4 H locs hp hP hD hS => ?_)
  obtain ⟨th9, hm, mn9, ld9, sw9, sm9, qo9, F9m, G9m, rfl⟩ := hp
  rcases hh with ⟨ok, rfl, hg0⟩ | ⟨nok, rfl⟩
  · obtain ⟨hr2, ht2⟩ : r_4 = 0 ∧ th9 = 0 := hm.elim (fun h9 => h9.2) (fun h9 => False.elim (h9.1.elim (fun z => ok.1 z) (fun z => z ok.2)))
    subst hr2; subst ht2
    have hl : lv_has ls 9 [(5, .int 0), (0, .ref b), (1, .ref (ad 0)), (2, .ref (am 1)), (3, .ref ao), (4, .int 0)] := hl
    refine lv_istore (lv' := [(6, .int 0), (5, .int 0), (0, .ref b), (1, .ref (ad 0)), (2, .ref (am 1)), (3, .ref ao), (4, .int 0)]) hx hb dL_law_2178 hl (by decide) rfl (fun ls hl => ?_)
    refine lv_aload_n hx hb dL_law_2180 rfl (lv_at hl 4 rfl) ?_
    refine kI (rV (q0 := 1) (ci := 8) hx hb hml hown hg hN hK hP hD (m_thrown l D cI cJ cZ cO (ao, .inl (cJ, 1, .inr (.inl g9))) am qo9 F9m G9m 0 mn9 ld9 sw9 sm9) mw_670 mw_671 mw_672 mw_673 mw_348 pdv_X8_thrown ⟨Nat.le_of_ble_eq_true rfl, Nat.le_of_ble_eq_true rfl⟩ rfl rfl rfl hl.1 rfl (Nat.le_of_ble_eq_true rfl) dL_law_2181 ⟨Nat.le_of_ble_eq_true rfl, Nat.le_of_ble_eq_true rfl⟩) hD hS hA (fun r_5 u_5 H locs hp hP hD hS => ?_)
    obtain ⟨rfl, rfl⟩ := hp
    refine lv_iload hx hb dL_law_2184 (lv_at hl 1 rfl) ?_
    refine lv_icmp_eq (tgt := 2191) hx hb dL_law_2186 (by decide) (fun c_2186 => ?_) (fun c_2186 => absurd (by decide) c_2186)
    refine lv_iload hx hb dL_law_2191 (lv_at hl 1 rfl) ?_
    refine lv_if_ne (tgt := 2208) hx hb dL_law_2193 (by decide) (fun c_2193 => absurd (by decide) c_2193) (fun c_2193 => ?_)
    refine lv_aload_n hx hb dL_law_2196 rfl (lv_at hl 5 rfl) ?_
    refine lv_iconst (v := 0) hx hb dL_law_2197 (by decide) ?_
    refine va_lald hx hb hK hP 0 1 rfl rfl (by unfold vp_in; decide) dL_law_2198 ?_
    rw [show g9 (0 : Int32).toNatClampNeg = 0 from hg0]
    refine lv_iload hx hb dL_law_2199 (lv_at hl 0 rfl) ?_
    refine lv_i2l (v := 0) hx hb dL_law_2201 (by decide) ?_
    refine W.lcmp hx hb dL_law_2202 ?_
    refine lv_topi (fun v_6 ev_6 => ?_)
    obtain rfl : v_6 = (0 : Int32) := ev_6.trans (by decide)
    refine lv_if_eq (tgt := 2208) hx hb dL_law_2203 (by decide) (fun c_2203 => ?_) (fun c_2203 => absurd (by decide) c_2203)
    refine lv_goto (tgt := 2279) hx hb dL_law_2208 (by decide) ?_
    exact lc_end C0 hAl hbA hS (lv_sub hl [2, 6] rfl) (Nat.le_of_ble_eq_true rfl) (Nat.le_of_ble_eq_true rfl)
  · obtain ht2 : th9 = 1 := hm.elim (fun h9 => False.elim (nok.elim (fun z => h9.1.1 z) (fun z => z h9.1.2))) (fun h9 => h9.2)
    subst ht2
    have hl : lv_has ls 9 [(5, .int 1), (0, .ref b), (1, .ref (ad 0)), (2, .ref (am 1)), (3, .ref ao), (4, .int 0)] := hl
    refine lv_istore (lv' := [(6, .int r_4), (5, .int 1), (0, .ref b), (1, .ref (ad 0)), (2, .ref (am 1)), (3, .ref ao), (4, .int 0)]) hx hb dL_law_2178 hl (by decide) rfl (fun ls hl => ?_)
    refine lv_aload_n hx hb dL_law_2180 rfl (lv_at hl 4 rfl) ?_
    refine kI (rV (q0 := 1) (ci := 8) hx hb hml hown hg hN hK hP hD (m_thrown l D cI cJ cZ cO (ao, .inl (cJ, 1, .inr (.inl g9))) am qo9 F9m G9m 1 mn9 ld9 sw9 sm9) mw_670 mw_671 mw_672 mw_673 mw_348 pdv_X8_thrown ⟨Nat.le_of_ble_eq_true rfl, Nat.le_of_ble_eq_true rfl⟩ rfl rfl rfl hl.1 rfl (Nat.le_of_ble_eq_true rfl) dL_law_2181 ⟨Nat.le_of_ble_eq_true rfl, Nat.le_of_ble_eq_true rfl⟩) hD hS hA (fun r_7 u_7 H locs hp hP hD hS => ?_)
    obtain ⟨rfl, rfl⟩ := hp
    refine lv_iload hx hb dL_law_2184 (lv_at hl 1 rfl) ?_
    refine lv_icmp_eq (tgt := 2191) hx hb dL_law_2186 (by decide) (fun c_2186 => ?_) (fun c_2186 => absurd (by decide) c_2186)
    refine lv_iload hx hb dL_law_2191 (lv_at hl 1 rfl) ?_
    refine lv_if_ne (tgt := 2208) hx hb dL_law_2193 (by decide) (fun c_2193 => ?_) (fun c_2193 => absurd c_2193 (by decide))
    refine lv_goto (tgt := 2279) hx hb dL_law_2208 (by decide) ?_
    exact lc_end C0 hAl hbA hS (lv_sub hl [2, 6] rfl) (Nat.le_of_ble_eq_true rfl) (Nat.le_of_ble_eq_true rfl)
set_option maxHeartbeats 4000000 in
set_option maxRecDepth 100000 in
theorem lc_42 {p : Program} {l : Launch} {e : Env} {s : State} {m : MethodId} {below : List Frame} {meth : Method} {c : Code} {b : Nat} {xs : Nat → Int32} {A : Nat → Prop} {H : Heap} {locs : List Loc} {ls : Array Slot} (hfl : l.stackTraces = false) (D : va_G) (cI cJ cZ cO : ClassId) (ad : Nat → Nat) (bf : Nat → Int32) (hb0 : ∀ k, bf k = 0) (F : Nat → Nat → Int32) (G : Nat → Nat → Int64) (ao : Nat) (g : Nat → Int64) (am : Nat → Nat) (qo : Nat) (F2 : Nat → Nat → Int32) (G2 : Nat → Nat → Int64) (C0 : lw_At p s m meth c b 4 xs) (hN : NW s) (hST : ST A s) (hSR : SR s) (hK : va_K D vwCl (TO cI cJ cZ cO) s) (hA : ∀ q, s.heap.size ≤ q → A q) (hAl : ∀ q, A q → s.heap.size ≤ q) (hbA : ¬ A b) (hP : va_P D vwCl (XW ad cI cJ 0 bf F G ++ MW (ao, .inl (cJ, 1, .inr (.inl g))) am cI cJ cZ cO 0 0 0 0 0 qo F2 G2) H) (hD : va_D A (XW ad cI cJ 0 bf F G ++ MW (ao, .inl (cJ, 1, .inr (.inl g))) am cI cJ cZ cO 0 0 0 0 0 qo F2 G2)) (hS : va_S A s.heap H locs) (hl : lv_has ls 9 [(0, .ref b), (1, .ref (ad 0)), (2, .ref (am 1)), (3, .ref ao), (4, .int 0)]) : W p l e room_1 s m #[Value.ref b] below meth c H locs 67 9542 (lw_Z below #[Value.ref b] s) (F0 m 2211 ls []) := by
  obtain ⟨hx, hb, hr, hml, hown, hts, hX, hbl, hlocks, hgv⟩ := id C0
  have hg : ∀ w ∈ GW, w.before #[Value.ref b] s = true := fun w hw => hts w (gw_tbl hw)
  refine lv_aload_n hx hb dL_law_2211 rfl (lv_at hl 1 rfl) ?_
  refine kI (rV (q0 := 0) (ci := 7) hx hb hml hown hg hN (hK.sub (tys' := TY cI cJ cZ) [0, 1, 2] rfl) hP hD (p_swept l D cI cJ cZ ad bf F G (MW (ao, .inl (cJ, 1, .inr (.inl g))) am cI cJ cZ cO 0 0 0 0 0 qo F2 G2) hb0) mw_973 mw_974 mw_975 mw_976 mw_110 pdv_X7_swept ⟨Nat.le_of_ble_eq_true rfl, Nat.le_of_ble_eq_true rfl⟩ rfl rfl rfl hl.1 rfl (Nat.le_of_ble_eq_true rfl) dL_law_2212 ⟨Nat.le_of_ble_eq_true rfl, Nat.le_of_ble_eq_true rfl⟩) hD hS hA (fun r_1 u_1 H locs hp hP hD hS => ?_)
  obtain ⟨rfl, n9, b9, F9, G9, rfl⟩ := hp
  have hP : va_P D vwCl (MW (ao, .inl (cJ, 1, .inr (.inl g))) am cI cJ cZ cO 0 0 0 0 0 qo F2 G2) H := appRP hP
  have hD : va_D A (MW (ao, .inl (cJ, 1, .inr (.inl g))) am cI cJ cZ cO 0 0 0 0 0 qo F2 G2) := appRD hD
  refine lv_aload_n hx hb dL_law_2215 rfl (lv_at hl 2 rfl) ?_
  refine kI (rV (q0 := 1) (ci := 8) hx hb hml hown hg hN hK hP hD (q_swept l D cI cJ cZ cO (ao, .inl (cJ, 1, .inr (.inl g))) am qo F2 G2 ) mw_977 mw_978 mw_979 mw_980 mw_348 pdv_X8_swept_ ⟨Nat.le_of_ble_eq_true rfl, Nat.le_of_ble_eq_true rfl⟩ rfl rfl rfl hl.1 rfl (Nat.le_of_ble_eq_true rfl) dL_law_2216 ⟨Nat.le_of_ble_eq_true rfl, Nat.le_of_ble_eq_true rfl⟩) hD hS hA (fun r_2 u_2 H locs hp hP hD hS => ?_)
  obtain ⟨rfl, mn9, ld9, sw9, sm9, qo9, F9m, G9m, rfl⟩ := hp
  refine lv_icmp_eq (tgt := 2279) hx hb dL_law_2219 (by decide) (fun c_2219 => ?_) (fun c_2219 => absurd (by decide) c_2219)
  exact lc_end C0 hAl hbA hS (lv_sub hl [0, 4] rfl) (Nat.le_of_ble_eq_true rfl) (Nat.le_of_ble_eq_true rfl)
set_option maxHeartbeats 4000000 in
set_option maxRecDepth 100000 in
theorem lc_43 {p : Program} {l : Launch} {e : Env} {s : State} {m : MethodId} {below : List Frame} {meth : Method} {c : Code} {b : Nat} {xs : Nat → Int32} {A : Nat → Prop} {H : Heap} {locs : List Loc} {ls : Array Slot} (hfl : l.stackTraces = false) (D : va_G) (cI cJ cZ cO : ClassId) (ad : Nat → Nat) (bf : Nat → Int32) (hb0 : ∀ k, bf k = 0) (F : Nat → Nat → Int32) (G : Nat → Nat → Int64) (ao : Nat) (g : Nat → Int64) (am : Nat → Nat) (qo : Nat) (F2 : Nat → Nat → Int32) (G2 : Nat → Nat → Int64) (C0 : lw_At p s m meth c b 4 xs) (hN : NW s) (hST : ST A s) (hSR : SR s) (hK : va_K D vwCl (TO cI cJ cZ cO) s) (hA : ∀ q, s.heap.size ≤ q → A q) (hAl : ∀ q, A q → s.heap.size ≤ q) (hbA : ¬ A b) (hP : va_P D vwCl (XW ad cI cJ 0 bf F G ++ MW (ao, .inl (cJ, 1, .inr (.inl g))) am cI cJ cZ cO 0 0 0 0 0 qo F2 G2) H) (hD : va_D A (XW ad cI cJ 0 bf F G ++ MW (ao, .inl (cJ, 1, .inr (.inl g))) am cI cJ cZ cO 0 0 0 0 0 qo F2 G2)) (hS : va_S A s.heap H locs) (hl : lv_has ls 9 [(0, .ref b), (1, .ref (ad 0)), (2, .ref (am 1)), (3, .ref ao), (4, .int 0)]) : W p l e room_1 s m #[Value.ref b] below meth c H locs 67 9542 (lw_Z below #[Value.ref b] s) (F0 m 2224 ls []) := by
  obtain ⟨hx, hb, hr, hml, hown, hts, hX, hbl, hlocks, hgv⟩ := id C0
  have hg : ∀ w ∈ GW, w.before #[Value.ref b] s = true := fun w hw => hts w (gw_tbl hw)
  refine lv_aload_n hx hb dL_law_2224 rfl (lv_at hl 1 rfl) ?_
  refine kD (rV (q0 := 0) (ci := 7) hx hb hml hown hg hN (hK.sub (tys' := TY cI cJ cZ) [0, 1, 2] rfl) hP hD (p_meanLength l D cI cJ cZ ad bf F G (MW (ao, .inl (cJ, 1, .inr (.inl g))) am cI cJ cZ cO 0 0 0 0 0 qo F2 G2) hb0) mw_981 mw_982 mw_983 mw_984 mw_110 pdv_X7_meanLength ⟨Nat.le_of_ble_eq_true rfl, Nat.le_of_ble_eq_true rfl⟩ rfl rfl rfl hl.1 rfl (Nat.le_of_ble_eq_true rfl) dL_law_2225 ⟨Nat.le_of_ble_eq_true rfl, Nat.le_of_ble_eq_true rfl⟩) hD hS hA (fun r_1 u_1 H locs hp hP hD hS => ?_)
  obtain ⟨rfl, n9, b9, F9, G9, rfl⟩ := hp
  have hP : va_P D vwCl (MW (ao, .inl (cJ, 1, .inr (.inl g))) am cI cJ cZ cO 0 0 0 0 0 qo F2 G2) H := appRP hP
  have hD : va_D A (MW (ao, .inl (cJ, 1, .inr (.inl g))) am cI cJ cZ cO 0 0 0 0 0 qo F2 G2) := appRD hD
  refine lv_dstore (lv' := [(5, .double FP.dconst0), (0, .ref b), (1, .ref (ad 0)), (2, .ref (am 1)), (3, .ref ao), (4, .int 0)]) hx hb dL_law_2228 hl (by decide) rfl (fun ls hl => ?_)
  refine lv_aload_n hx hb dL_law_2230 rfl (lv_at hl 3 rfl) ?_
  refine kD (rV (q0 := 1) (ci := 8) hx hb hml hown hg hN hK hP hD (q_meanLength l D cI cJ cZ cO (ao, .inl (cJ, 1, .inr (.inl g))) am qo F2 G2 ) mw_985 mw_986 mw_987 mw_988 mw_348 pdv_X8_meanLength ⟨Nat.le_of_ble_eq_true rfl, Nat.le_of_ble_eq_true rfl⟩ rfl rfl rfl hl.1 rfl (Nat.le_of_ble_eq_true rfl) dL_law_2231 ⟨Nat.le_of_ble_eq_true rfl, Nat.le_of_ble_eq_true rfl⟩) hD hS hA (fun r_2 u_2 H locs hp hP hD hS => ?_)
  obtain ⟨rfl, mn9, ld9, sw9, sm9, qo9, F9m, G9m, rfl⟩ := hp
  refine lv_dstore (lv' := [(7, .double FP.dconst0), (5, .double FP.dconst0), (0, .ref b), (1, .ref (ad 0)), (2, .ref (am 1)), (3, .ref ao), (4, .int 0)]) hx hb dL_law_2234 hl (by decide) rfl (fun ls hl => ?_)
  refine lv_dload hx hb dL_law_2236 (lv_at hl 1 rfl) ?_
  refine lv_dload hx hb dL_law_2238 (lv_at hl 0 rfl) ?_
  refine lv_dcmp hx hb dL_law_2240 ?_
  refine lv_topi (fun v_3 ev_3 => ?_)
  obtain rfl : v_3 = (0 : Int32) := ev_3.trans (by decide)
  refine lv_if_eq (tgt := 2262) hx hb dL_law_2241 (by decide) (fun c_2241 => ?_) (fun c_2241 => absurd (by decide) c_2241)
  refine lv_goto (tgt := 2279) hx hb dL_law_2262 (by decide) ?_
  exact lc_end C0 hAl hbA hS (lv_sub hl [2, 6] rfl) (Nat.le_of_ble_eq_true rfl) (Nat.le_of_ble_eq_true rfl)
set_option maxHeartbeats 4000000 in
set_option maxRecDepth 100000 in
theorem lc_44 {p : Program} {l : Launch} {e : Env} {s : State} {m : MethodId} {below : List Frame} {meth : Method} {c : Code} {b : Nat} {xs : Nat → Int32} {A : Nat → Prop} {H : Heap} {locs : List Loc} {ls : Array Slot} (hfl : l.stackTraces = false) (D : va_G) (cI cJ cZ cO : ClassId) (ad : Nat → Nat) (bf : Nat → Int32) (hb0 : ∀ k, bf k = 0) (F : Nat → Nat → Int32) (G : Nat → Nat → Int64) (ao : Nat) (g : Nat → Int64) (am : Nat → Nat) (qo : Nat) (F2 : Nat → Nat → Int32) (G2 : Nat → Nat → Int64) (C0 : lw_At p s m meth c b 4 xs) (hN : NW s) (hST : ST A s) (hSR : SR s) (hK : va_K D vwCl (TO cI cJ cZ cO) s) (hA : ∀ q, s.heap.size ≤ q → A q) (hAl : ∀ q, A q → s.heap.size ≤ q) (hbA : ¬ A b) (hP : va_P D vwCl (XW ad cI cJ 0 bf F G ++ MW (ao, .inl (cJ, 1, .inr (.inl g))) am cI cJ cZ cO 0 0 0 0 0 qo F2 G2) H) (hD : va_D A (XW ad cI cJ 0 bf F G ++ MW (ao, .inl (cJ, 1, .inr (.inl g))) am cI cJ cZ cO 0 0 0 0 0 qo F2 G2)) (hS : va_S A s.heap H locs) (hl : lv_has ls 9 [(0, .ref b), (1, .ref (ad 0)), (2, .ref (am 1)), (3, .ref ao), (4, .int 0)]) : W p l e room_1 s m #[Value.ref b] below meth c H locs 67 9542 (lw_Z below #[Value.ref b] s) (F0 m 2265 ls []) := by
  obtain ⟨hx, hb, hr, hml, hown, hts, hX, hbl, hlocks, hgv⟩ := id C0
  have hg : ∀ w ∈ GW, w.before #[Value.ref b] s = true := fun w hw => hts w (gw_tbl hw)
  refine lv_aload_n hx hb dL_law_2265 rfl (lv_at hl 1 rfl) ?_
  refine kL (rV (q0 := 0) (ci := 7) hx hb hml hown hg hN (hK.sub (tys' := TY cI cJ cZ) [0, 1, 2] rfl) hP hD (p_digest l D cI cJ cZ ad bf F G (MW (ao, .inl (cJ, 1, .inr (.inl g))) am cI cJ cZ cO 0 0 0 0 0 qo F2 G2) hb0) mw_989 mw_990 mw_991 mw_992 mw_110 pdv_X7_digest ⟨Nat.le_of_ble_eq_true rfl, Nat.le_of_ble_eq_true rfl⟩ rfl rfl rfl hl.1 rfl (Nat.le_of_ble_eq_true rfl) dL_law_2266 ⟨Nat.le_of_ble_eq_true rfl, Nat.le_of_ble_eq_true rfl⟩) hD hS hA (fun r_1 u_1 H locs hp hP hD hS => ?_)
  obtain ⟨rfl, n9, b9, F9, G9, rfl⟩ := hp
  have hP : va_P D vwCl (MW (ao, .inl (cJ, 1, .inr (.inl g))) am cI cJ cZ cO 0 0 0 0 0 qo F2 G2) H := appRP hP
  have hD : va_D A (MW (ao, .inl (cJ, 1, .inr (.inl g))) am cI cJ cZ cO 0 0 0 0 0 qo F2 G2) := appRD hD
  refine lv_aload_n hx hb dL_law_2269 rfl (lv_at hl 2 rfl) ?_
  refine kL (rV (q0 := 1) (ci := 8) hx hb hml hown hg hN hK hP hD (q_digest l D cI cJ cZ cO (ao, .inl (cJ, 1, .inr (.inl g))) am qo F2 G2 ) mw_993 mw_994 mw_995 mw_996 mw_348 pdv_X8_digest ⟨Nat.le_of_ble_eq_true rfl, Nat.le_of_ble_eq_true rfl⟩ rfl rfl rfl hl.1 rfl (Nat.le_of_ble_eq_true rfl) dL_law_2270 ⟨Nat.le_of_ble_eq_true rfl, Nat.le_of_ble_eq_true rfl⟩) hD hS hA (fun r_2 u_2 H locs hp hP hD hS => ?_)
  obtain ⟨rfl, mn9, ld9, sw9, sm9, qo9, F9m, G9m, rfl⟩ := hp
  refine W.lcmp hx hb dL_law_2273 ?_
  refine lv_topi (fun v_3 ev_3 => ?_)
  obtain rfl : v_3 = (0 : Int32) := ev_3.trans (by decide)
  refine lv_if_eq (tgt := 2279) hx hb dL_law_2274 (by decide) (fun c_2274 => ?_) (fun c_2274 => absurd (by decide) c_2274)
  exact lc_end C0 hAl hbA hS (lv_sub hl [0, 4] rfl) (Nat.le_of_ble_eq_true rfl) (Nat.le_of_ble_eq_true rfl)
