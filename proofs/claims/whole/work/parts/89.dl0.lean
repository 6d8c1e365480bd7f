theorem dL_law__0 : decode cL_law_ 0 = .ok (.new 8, 3) := by decide +kernel
theorem dL_law__3 : decode cL_law_ 3 = .ok (.dup, 1) := by decide +kernel
theorem dL_law__4 : decode cL_law_ 4 = .ok (.invokespecial 147, 3) := by decide +kernel
theorem dL_law__7 : decode cL_law_ 7 = .ok (.astore_n 1, 1) := by decide +kernel
theorem dL_law__8 : decode cL_law_ 8 = .ok (.new 148, 3) := by decide +kernel
theorem dL_law__11 : decode cL_law_ 11 = .ok (.dup, 1) := by decide +kernel
theorem dL_law__12 : decode cL_law_ 12 = .ok (.invokespecial 150, 3) := by decide +kernel
theorem dL_law__15 : decode cL_law_ 15 = .ok (.astore_n 2, 1) := by decide +kernel
theorem dL_law__16 : decode cL_law_ 16 = .ok (.iconst 1, 1) := by decide +kernel
theorem dL_law__17 : decode cL_law_ 17 = .ok (.newarray .long, 2) := by decide +kernel
theorem dL_law__19 : decode cL_law_ 19 = .ok (.astore_n 3, 1) := by decide +kernel
theorem dL_law__20 : decode cL_law_ 20 = .ok (.iconst 0, 1) := by decide +kernel
theorem dL_law__21 : decode cL_law_ 21 = .ok (.istore 4, 2) := by decide +kernel
theorem dL_law__23 : decode cL_law_ 23 = .ok (.iload 4, 2) := by decide +kernel
theorem dL_law__25 : decode cL_law_ 25 = .ok (.aload_n 0, 1) := by decide +kernel
theorem dL_law__26 : decode cL_law_ 26 = .ok (.arraylength, 1) := by decide +kernel
theorem dL_law__27 : decode cL_law_ 27 = .ok (.bipush 6, 2) := by decide +kernel
theorem dL_law__29 : decode cL_law_ 29 = .ok (.isub, 1) := by decide +kernel
theorem dL_law__30 : decode cL_law_ 30 = .ok (.if_icmp .gt 3240, 3) := by decide +kernel
theorem dL_law__33 : decode cL_law_ 33 = .ok (.aload_n 0, 1) := by decide +kernel
theorem dL_law__34 : decode cL_law_ 34 = .ok (.iload 4, 2) := by decide +kernel
theorem dL_law__36 : decode cL_law_ 36 = .ok (.iaload, 1) := by decide +kernel
theorem dL_law__37 : decode cL_law_ 37 = .ok (.bipush 63, 2) := by decide +kernel
theorem dL_law__39 : decode cL_law_ 39 = .ok (.iand, 1) := by decide +kernel
theorem dL_law__40 : decode cL_law_ 40 = .ok (.tableswitch 3224 0 56 #[244, 317, 342, 386, 430, 443, 511, 579, 647, 672, 740, 808, 888, 956, 1024, 1099, 1167, 1223, 1279, 1382, 1438, 1494, 1562, 1618, 1686, 1699, 1783, 1796, 1840, 1884, 1928, 2000, 2044, 2088, 2101, 2176, 2244, 2312, 2325, 2393, 2449, 2505, 2585, 2626, 2667, 2680, 2736, 2749, 2817, 2901, 2985, 3069, 3137, 3162, 3175, 3186, 3199], 244) := by decide +kernel
theorem dL_law__284 : decode cL_law_ 284 = .ok (.aload_n 1, 1) := by decide +kernel
theorem dL_law__285 : decode cL_law_ 285 = .ok (.aload_n 0, 1) := by decide +kernel
theorem dL_law__286 : decode cL_law_ 286 = .ok (.iload 4, 2) := by decide +kernel
theorem dL_law__288 : decode cL_law_ 288 = .ok (.iconst 1, 1) := by decide +kernel
theorem dL_law__289 : decode cL_law_ 289 = .ok (.iadd, 1) := by decide +kernel
theorem dL_law__290 : decode cL_law_ 290 = .ok (.iaload, 1) := by decide +kernel
theorem dL_law__291 : decode cL_law_ 291 = .ok (.aload_n 0, 1) := by decide +kernel
theorem dL_law__292 : decode cL_law_ 292 = .ok (.iload 4, 2) := by decide +kernel
theorem dL_law__294 : decode cL_law_ 294 = .ok (.iconst 2, 1) := by decide +kernel
theorem dL_law__295 : decode cL_law_ 295 = .ok (.iadd, 1) := by decide +kernel
theorem dL_law__296 : decode cL_law_ 296 = .ok (.iaload, 1) := by decide +kernel
theorem dL_law__297 : decode cL_law_ 297 = .ok (.aload_n 0, 1) := by decide +kernel
theorem dL_law__298 : decode cL_law_ 298 = .ok (.iload 4, 2) := by decide +kernel
theorem dL_law__300 : decode cL_law_ 300 = .ok (.iconst 3, 1) := by decide +kernel
theorem dL_law__301 : decode cL_law_ 301 = .ok (.iadd, 1) := by decide +kernel
theorem dL_law__302 : decode cL_law_ 302 = .ok (.iaload, 1) := by decide +kernel
theorem dL_law__303 : decode cL_law_ 303 = .ok (.aload_n 0, 1) := by decide +kernel
theorem dL_law__304 : decode cL_law_ 304 = .ok (.iload 4, 2) := by decide +kernel
theorem dL_law__306 : decode cL_law_ 306 = .ok (.iconst 4, 1) := by decide +kernel
theorem dL_law__307 : decode cL_law_ 307 = .ok (.iadd, 1) := by decide +kernel
theorem dL_law__308 : decode cL_law_ 308 = .ok (.iaload, 1) := by decide +kernel
theorem dL_law__309 : decode cL_law_ 309 = .ok (.aload_n 0, 1) := by decide +kernel
theorem dL_law__310 : decode cL_law_ 310 = .ok (.iload 4, 2) := by decide +kernel
theorem dL_law__312 : decode cL_law_ 312 = .ok (.iconst 5, 1) := by decide +kernel
theorem dL_law__313 : decode cL_law_ 313 = .ok (.iadd, 1) := by decide +kernel
theorem dL_law__314 : decode cL_law_ 314 = .ok (.iaload, 1) := by decide +kernel
theorem dL_law__315 : decode cL_law_ 315 = .ok (.invokevirtual 151, 3) := by decide +kernel
theorem dL_law__318 : decode cL_law_ 318 = .ok (.aload_n 2, 1) := by decide +kernel
theorem dL_law__319 : decode cL_law_ 319 = .ok (.aload_n 0, 1) := by decide +kernel
theorem dL_law__320 : decode cL_law_ 320 = .ok (.iload 4, 2) := by decide +kernel
theorem dL_law__322 : decode cL_law_ 322 = .ok (.iconst 1, 1) := by decide +kernel
theorem dL_law__323 : decode cL_law_ 323 = .ok (.iadd, 1) := by decide +kernel
theorem dL_law__324 : decode cL_law_ 324 = .ok (.iaload, 1) := by decide +kernel
theorem dL_law__325 : decode cL_law_ 325 = .ok (.aload_n 0, 1) := by decide +kernel
theorem dL_law__326 : decode cL_law_ 326 = .ok (.iload 4, 2) := by decide +kernel
theorem dL_law__328 : decode cL_law_ 328 = .ok (.iconst 2, 1) := by decide +kernel
theorem dL_law__329 : decode cL_law_ 329 = .ok (.iadd, 1) := by decide +kernel
theorem dL_law__330 : decode cL_law_ 330 = .ok (.iaload, 1) := by decide +kernel
theorem dL_law__331 : decode cL_law_ 331 = .ok (.aload_n 0, 1) := by decide +kernel
theorem dL_law__332 : decode cL_law_ 332 = .ok (.iload 4, 2) := by decide +kernel
theorem dL_law__334 : decode cL_law_ 334 = .ok (.iconst 3, 1) := by decide +kernel
theorem dL_law__335 : decode cL_law_ 335 = .ok (.iadd, 1) := by decide +kernel
theorem dL_law__336 : decode cL_law_ 336 = .ok (.iaload, 1) := by decide +kernel
theorem dL_law__337 : decode cL_law_ 337 = .ok (.aload_n 0, 1) := by decide +kernel
theorem dL_law__338 : decode cL_law_ 338 = .ok (.iload 4, 2) := by decide +kernel
theorem dL_law__340 : decode cL_law_ 340 = .ok (.iconst 4, 1) := by decide +kernel
theorem dL_law__341 : decode cL_law_ 341 = .ok (.iadd, 1) := by decide +kernel
theorem dL_law__342 : decode cL_law_ 342 = .ok (.iaload, 1) := by decide +kernel
theorem dL_law__343 : decode cL_law_ 343 = .ok (.aload_n 0, 1) := by decide +kernel
theorem dL_law__344 : decode cL_law_ 344 = .ok (.iload 4, 2) := by decide +kernel
theorem dL_law__346 : decode cL_law_ 346 = .ok (.iconst 5, 1) := by decide +kernel
theorem dL_law__347 : decode cL_law_ 347 = .ok (.iadd, 1) := by decide +kernel
theorem dL_law__348 : decode cL_law_ 348 = .ok (.iaload, 1) := by decide +kernel
theorem dL_law__349 : decode cL_law_ 349 = .ok (.invokevirtual 155, 3) := by decide +kernel
theorem dL_law__352 : decode cL_law_ 352 = .ok (.if_icmp .eq 2912, 3) := by decide +kernel
theorem dL_law__355 : decode cL_law_ 355 = .ok (.iconst 0, 1) := by decide +kernel
theorem dL_law__356 : decode cL_law_ 356 = .ok (.ireturn, 1) := by decide +kernel
theorem dL_law__357 : decode cL_law_ 357 = .ok (.aload_n 1, 1) := by decide +kernel
theorem dL_law__358 : decode cL_law_ 358 = .ok (.aload_n 0, 1) := by decide +kernel
theorem dL_law__359 : decode cL_law_ 359 = .ok (.iload 4, 2) := by decide +kernel
theorem dL_law__361 : decode cL_law_ 361 = .ok (.iconst 1, 1) := by decide +kernel
theorem dL_law__362 : decode cL_law_ 362 = .ok (.iadd, 1) := by decide +kernel
theorem dL_law__363 : decode cL_law_ 363 = .ok (.iaload, 1) := by decide +kernel
theorem dL_law__364 : decode cL_law_ 364 = .ok (.invokevirtual 156, 3) := by decide +kernel
theorem dL_law__367 : decode cL_law_ 367 = .ok (.aload_n 2, 1) := by decide +kernel
theorem dL_law__368 : decode cL_law_ 368 = .ok (.aload_n 0, 1) := by decide +kernel
theorem dL_law__369 : decode cL_law_ 369 = .ok (.iload 4, 2) := by decide +kernel
theorem dL_law__371 : decode cL_law_ 371 = .ok (.iconst 1, 1) := by decide +kernel
theorem dL_law__372 : decode cL_law_ 372 = .ok (.iadd, 1) := by decide +kernel
theorem dL_law__373 : decode cL_law_ 373 = .ok (.iaload, 1) := by decide +kernel
theorem dL_law__374 : decode cL_law_ 374 = .ok (.invokevirtual 160, 3) := by decide +kernel
theorem dL_law__377 : decode cL_law_ 377 = .ok (.if_icmp .eq 2887, 3) := by decide +kernel
theorem dL_law__380 : decode cL_law_ 380 = .ok (.iconst 0, 1) := by decide +kernel
theorem dL_law__381 : decode cL_law_ 381 = .ok (.ireturn, 1) := by decide +kernel
theorem dL_law__382 : decode cL_law_ 382 = .ok (.aload_n 1, 1) := by decide +kernel
theorem dL_law__383 : decode cL_law_ 383 = .ok (.aload_n 3, 1) := by decide +kernel
theorem dL_law__384 : decode cL_law_ 384 = .ok (.invokestatic 161, 3) := by decide +kernel
theorem dL_law__387 : decode cL_law_ 387 = .ok (.istore 5, 2) := by decide +kernel
theorem dL_law__389 : decode cL_law_ 389 = .ok (.aload_n 2, 1) := by decide +kernel
theorem dL_law__390 : decode cL_law_ 390 = .ok (.invokevirtual 166, 3) := by decide +kernel
theorem dL_law__393 : decode cL_law_ 393 = .ok (.istore 6, 2) := by decide +kernel
theorem dL_law__395 : decode cL_law_ 395 = .ok (.aload_n 2, 1) := by decide +kernel
theorem dL_law__396 : decode cL_law_ 396 = .ok (.invokevirtual 167, 3) := by decide +kernel
theorem dL_law__399 : decode cL_law_ 399 = .ok (.iload 5, 2) := by decide +kernel
theorem dL_law__401 : decode cL_law_ 401 = .ok (.if_icmp .eq 5, 3) := by decide +kernel
theorem dL_law__404 : decode cL_law_ 404 = .ok (.iconst 0, 1) := by decide +kernel
theorem dL_law__405 : decode cL_law_ 405 = .ok (.ireturn, 1) := by decide +kernel
theorem dL_law__406 : decode cL_law_ 406 = .ok (.iload 5, 2) := by decide +kernel
theorem dL_law__408 : decode cL_law_ 408 = .ok (.ifCond .ne 15, 3) := by decide +kernel
theorem dL_law__411 : decode cL_law_ 411 = .ok (.aload_n 3, 1) := by decide +kernel
theorem dL_law__412 : decode cL_law_ 412 = .ok (.iconst 0, 1) := by decide +kernel
theorem dL_law__413 : decode cL_law_ 413 = .ok (.laload, 1) := by decide +kernel
theorem dL_law__414 : decode cL_law_ 414 = .ok (.iload 6, 2) := by decide +kernel
theorem dL_law__416 : decode cL_law_ 416 = .ok (.i2l, 1) := by decide +kernel
theorem dL_law__417 : decode cL_law_ 417 = .ok (.lcmp, 1) := by decide +kernel
theorem dL_law__418 : decode cL_law_ 418 = .ok (.ifCond .eq 5, 3) := by decide +kernel
theorem dL_law__421 : decode cL_law_ 421 = .ok (.iconst 0, 1) := by decide +kernel
theorem dL_law__422 : decode cL_law_ 422 = .ok (.ireturn, 1) := by decide +kernel
theorem dL_law__423 : decode cL_law_ 423 = .ok (.goto 2841, 3) := by decide +kernel
theorem dL_law__426 : decode cL_law_ 426 = .ok (.aload_n 1, 1) := by decide +kernel
theorem dL_law__427 : decode cL_law_ 427 = .ok (.aload_n 3, 1) := by decide +kernel
theorem dL_law__428 : decode cL_law_ 428 = .ok (.invokestatic 170, 3) := by decide +kernel
theorem dL_law__431 : decode cL_law_ 431 = .ok (.istore 5, 2) := by decide +kernel
theorem dL_law__433 : decode cL_law_ 433 = .ok (.aload_n 2, 1) := by decide +kernel
theorem dL_law__434 : decode cL_law_ 434 = .ok (.invokevirtual 172, 3) := by decide +kernel
theorem dL_law__437 : decode cL_law_ 437 = .ok (.istore 6, 2) := by decide +kernel
theorem dL_law__439 : decode cL_law_ 439 = .ok (.aload_n 2, 1) := by decide +kernel
theorem dL_law__440 : decode cL_law_ 440 = .ok (.invokevirtual 167, 3) := by decide +kernel
theorem dL_law__443 : decode cL_law_ 443 = .ok (.iload 5, 2) := by decide +kernel
theorem dL_law__445 : decode cL_law_ 445 = .ok (.if_icmp .eq 5, 3) := by decide +kernel
theorem dL_law__448 : decode cL_law_ 448 = .ok (.iconst 0, 1) := by decide +kernel
theorem dL_law__449 : decode cL_law_ 449 = .ok (.ireturn, 1) := by decide +kernel
theorem dL_law__450 : decode cL_law_ 450 = .ok (.iload 5, 2) := by decide +kernel
theorem dL_law__452 : decode cL_law_ 452 = .ok (.ifCond .ne 15, 3) := by decide +kernel
theorem dL_law__455 : decode cL_law_ 455 = .ok (.aload_n 3, 1) := by decide +kernel
theorem dL_law__456 : decode cL_law_ 456 = .ok (.iconst 0, 1) := by decide +kernel
theorem dL_law__457 : decode cL_law_ 457 = .ok (.laload, 1) := by decide +kernel
theorem dL_law__458 : decode cL_law_ 458 = .ok (.iload 6, 2) := by decide +kernel
theorem dL_law__460 : decode cL_law_ 460 = .ok (.i2l, 1) := by decide +kernel
theorem dL_law__461 : decode cL_law_ 461 = .ok (.lcmp, 1) := by decide +kernel
theorem dL_law__462 : decode cL_law_ 462 = .ok (.ifCond .eq 5, 3) := by decide +kernel
theorem dL_law__465 : decode cL_law_ 465 = .ok (.iconst 0, 1) := by decide +kernel
theorem dL_law__466 : decode cL_law_ 466 = .ok (.ireturn, 1) := by decide +kernel
theorem dL_law__467 : decode cL_law_ 467 = .ok (.goto 2797, 3) := by decide +kernel
theorem dL_law__470 : decode cL_law_ 470 = .ok (.aload_n 1, 1) := by decide +kernel
theorem dL_law__471 : decode cL_law_ 471 = .ok (.invokevirtual 173, 3) := by decide +kernel
theorem dL_law__474 : decode cL_law_ 474 = .ok (.aload_n 2, 1) := by decide +kernel
theorem dL_law__475 : decode cL_law_ 475 = .ok (.invokevirtual 176, 3) := by decide +kernel
theorem dL_law__478 : decode cL_law_ 478 = .ok (.if_icmp .eq 2786, 3) := by decide +kernel
theorem dL_law__481 : decode cL_law_ 481 = .ok (.iconst 0, 1) := by decide +kernel
theorem dL_law__482 : decode cL_law_ 482 = .ok (.ireturn, 1) := by decide +kernel
theorem dL_law__483 : decode cL_law_ 483 = .ok (.aload_n 1, 1) := by decide +kernel
theorem dL_law__484 : decode cL_law_ 484 = .ok (.aload_n 0, 1) := by decide +kernel
theorem dL_law__485 : decode cL_law_ 485 = .ok (.iload 4, 2) := by decide +kernel
theorem dL_law__487 : decode cL_law_ 487 = .ok (.iconst 1, 1) := by decide +kernel
theorem dL_law__488 : decode cL_law_ 488 = .ok (.iadd, 1) := by decide +kernel
theorem dL_law__489 : decode cL_law_ 489 = .ok (.iaload, 1) := by decide +kernel
theorem dL_law__490 : decode cL_law_ 490 = .ok (.aload_n 0, 1) := by decide +kernel
theorem dL_law__491 : decode cL_law_ 491 = .ok (.iload 4, 2) := by decide +kernel
theorem dL_law__493 : decode cL_law_ 493 = .ok (.iconst 2, 1) := by decide +kernel
theorem dL_law__494 : decode cL_law_ 494 = .ok (.iadd, 1) := by decide +kernel
theorem dL_law__495 : decode cL_law_ 495 = .ok (.iaload, 1) := by decide +kernel
theorem dL_law__496 : decode cL_law_ 496 = .ok (.aload_n 3, 1) := by decide +kernel
theorem dL_law__497 : decode cL_law_ 497 = .ok (.invokestatic 177, 3) := by decide +kernel
theorem dL_law__500 : decode cL_law_ 500 = .ok (.istore 5, 2) := by decide +kernel
theorem dL_law__502 : decode cL_law_ 502 = .ok (.aload_n 2, 1) := by decide +kernel
theorem dL_law__503 : decode cL_law_ 503 = .ok (.aload_n 0, 1) := by decide +kernel
theorem dL_law__504 : decode cL_law_ 504 = .ok (.iload 4, 2) := by decide +kernel
theorem dL_law__506 : decode cL_law_ 506 = .ok (.iconst 1, 1) := by decide +kernel
theorem dL_law__507 : decode cL_law_ 507 = .ok (.iadd, 1) := by decide +kernel
theorem dL_law__508 : decode cL_law_ 508 = .ok (.iaload, 1) := by decide +kernel
theorem dL_law__509 : decode cL_law_ 509 = .ok (.aload_n 0, 1) := by decide +kernel
theorem dL_law__510 : decode cL_law_ 510 = .ok (.iload 4, 2) := by decide +kernel
theorem dL_law__512 : decode cL_law_ 512 = .ok (.iconst 2, 1) := by decide +kernel
theorem dL_law__513 : decode cL_law_ 513 = .ok (.iadd, 1) := by decide +kernel
theorem dL_law__514 : decode cL_law_ 514 = .ok (.iaload, 1) := by decide +kernel
theorem dL_law__515 : decode cL_law_ 515 = .ok (.invokevirtual 180, 3) := by decide +kernel
theorem dL_law__518 : decode cL_law_ 518 = .ok (.istore 6, 2) := by decide +kernel
theorem dL_law__520 : decode cL_law_ 520 = .ok (.aload_n 2, 1) := by decide +kernel
theorem dL_law__521 : decode cL_law_ 521 = .ok (.invokevirtual 167, 3) := by decide +kernel
theorem dL_law__524 : decode cL_law_ 524 = .ok (.iload 5, 2) := by decide +kernel
theorem dL_law__526 : decode cL_law_ 526 = .ok (.if_icmp .eq 5, 3) := by decide +kernel
theorem dL_law__529 : decode cL_law_ 529 = .ok (.iconst 0, 1) := by decide +kernel
theorem dL_law__530 : decode cL_law_ 530 = .ok (.ireturn, 1) := by decide +kernel
theorem dL_law__531 : decode cL_law_ 531 = .ok (.iload 5, 2) := by decide +kernel
theorem dL_law__533 : decode cL_law_ 533 = .ok (.ifCond .ne 15, 3) := by decide +kernel
theorem dL_law__536 : decode cL_law_ 536 = .ok (.aload_n 3, 1) := by decide +kernel
theorem dL_law__537 : decode cL_law_ 537 = .ok (.iconst 0, 1) := by decide +kernel
theorem dL_law__538 : decode cL_law_ 538 = .ok (.laload, 1) := by decide +kernel
theorem dL_law__539 : decode cL_law_ 539 = .ok (.iload 6, 2) := by decide +kernel
theorem dL_law__541 : decode cL_law_ 541 = .ok (.i2l, 1) := by decide +kernel
theorem dL_law__542 : decode cL_law_ 542 = .ok (.lcmp, 1) := by decide +kernel
theorem dL_law__543 : decode cL_law_ 543 = .ok (.ifCond .eq 5, 3) := by decide +kernel
theorem dL_law__546 : decode cL_law_ 546 = .ok (.iconst 0, 1) := by decide +kernel
theorem dL_law__547 : decode cL_law_ 547 = .ok (.ireturn, 1) := by decide +kernel
theorem dL_law__548 : decode cL_law_ 548 = .ok (.goto 2716, 3) := by decide +kernel
theorem dL_law__551 : decode cL_law_ 551 = .ok (.aload_n 1, 1) := by decide +kernel
theorem dL_law__552 : decode cL_law_ 552 = .ok (.aload_n 0, 1) := by decide +kernel
theorem dL_law__553 : decode cL_law_ 553 = .ok (.iload 4, 2) := by decide +kernel
theorem dL_law__555 : decode cL_law_ 555 = .ok (.iconst 1, 1) := by decide +kernel
theorem dL_law__556 : decode cL_law_ 556 = .ok (.iadd, 1) := by decide +kernel
theorem dL_law__557 : decode cL_law_ 557 = .ok (.iaload, 1) := by decide +kernel
theorem dL_law__558 : decode cL_law_ 558 = .ok (.aload_n 0, 1) := by decide +kernel
theorem dL_law__559 : decode cL_law_ 559 = .ok (.iload 4, 2) := by decide +kernel
theorem dL_law__561 : decode cL_law_ 561 = .ok (.iconst 2, 1) := by decide +kernel
theorem dL_law__562 : decode cL_law_ 562 = .ok (.iadd, 1) := by decide +kernel
theorem dL_law__563 : decode cL_law_ 563 = .ok (.iaload, 1) := by decide +kernel
theorem dL_law__564 : decode cL_law_ 564 = .ok (.aload_n 3, 1) := by decide +kernel
theorem dL_law__565 : decode cL_law_ 565 = .ok (.invokestatic 181, 3) := by decide +kernel
theorem dL_law__568 : decode cL_law_ 568 = .ok (.istore 5, 2) := by decide +kernel
theorem dL_law__570 : decode cL_law_ 570 = .ok (.aload_n 2, 1) := by decide +kernel
theorem dL_law__571 : decode cL_law_ 571 = .ok (.aload_n 0, 1) := by decide +kernel
theorem dL_law__572 : decode cL_law_ 572 = .ok (.iload 4, 2) := by decide +kernel
theorem dL_law__574 : decode cL_law_ 574 = .ok (.iconst 1, 1) := by decide +kernel
theorem dL_law__575 : decode cL_law_ 575 = .ok (.iadd, 1) := by decide +kernel
theorem dL_law__576 : decode cL_law_ 576 = .ok (.iaload, 1) := by decide +kernel
theorem dL_law__577 : decode cL_law_ 577 = .ok (.aload_n 0, 1) := by decide +kernel
theorem dL_law__578 : decode cL_law_ 578 = .ok (.iload 4, 2) := by decide +kernel
theorem dL_law__580 : decode cL_law_ 580 = .ok (.iconst 2, 1) := by decide +kernel
theorem dL_law__581 : decode cL_law_ 581 = .ok (.iadd, 1) := by decide +kernel
theorem dL_law__582 : decode cL_law_ 582 = .ok (.iaload, 1) := by decide +kernel
theorem dL_law__583 : decode cL_law_ 583 = .ok (.invokevirtual 183, 3) := by decide +kernel
theorem dL_law__586 : decode cL_law_ 586 = .ok (.istore 6, 2) := by decide +kernel
theorem dL_law__588 : decode cL_law_ 588 = .ok (.aload_n 2, 1) := by decide +kernel
theorem dL_law__589 : decode cL_law_ 589 = .ok (.invokevirtual 167, 3) := by decide +kernel
theorem dL_law__592 : decode cL_law_ 592 = .ok (.iload 5, 2) := by decide +kernel
theorem dL_law__594 : decode cL_law_ 594 = .ok (.if_icmp .eq 5, 3) := by decide +kernel
theorem dL_law__597 : decode cL_law_ 597 = .ok (.iconst 0, 1) := by decide +kernel
theorem dL_law__598 : decode cL_law_ 598 = .ok (.ireturn, 1) := by decide +kernel
theorem dL_law__599 : decode cL_law_ 599 = .ok (.iload 5, 2) := by decide +kernel
theorem dL_law__601 : decode cL_law_ 601 = .ok (.ifCond .ne 15, 3) := by decide +kernel
theorem dL_law__604 : decode cL_law_ 604 = .ok (.aload_n 3, 1) := by decide +kernel
theorem dL_law__605 : decode cL_law_ 605 = .ok (.iconst 0, 1) := by decide +kernel
theorem dL_law__606 : decode cL_law_ 606 = .ok (.laload, 1) := by decide +kernel
theorem dL_law__607 : decode cL_law_ 607 = .ok (.iload 6, 2) := by decide +kernel
theorem dL_law__609 : decode cL_law_ 609 = .ok (.i2l, 1) := by decide +kernel
theorem dL_law__610 : decode cL_law_ 610 = .ok (.lcmp, 1) := by decide +kernel
theorem dL_law__611 : decode cL_law_ 611 = .ok (.ifCond .eq 5, 3) := by decide +kernel
theorem dL_law__614 : decode cL_law_ 614 = .ok (.iconst 0, 1) := by decide +kernel
theorem dL_law__615 : decode cL_law_ 615 = .ok (.ireturn, 1) := by decide +kernel
theorem dL_law__616 : decode cL_law_ 616 = .ok (.goto 2648, 3) := by decide +kernel
theorem dL_law__619 : decode cL_law_ 619 = .ok (.aload_n 1, 1) := by decide +kernel
theorem dL_law__620 : decode cL_law_ 620 = .ok (.aload_n 0, 1) := by decide +kernel
theorem dL_law__621 : decode cL_law_ 621 = .ok (.iload 4, 2) := by decide +kernel
theorem dL_law__623 : decode cL_law_ 623 = .ok (.iconst 1, 1) := by decide +kernel
theorem dL_law__624 : decode cL_law_ 624 = .ok (.iadd, 1) := by decide +kernel
theorem dL_law__625 : decode cL_law_ 625 = .ok (.iaload, 1) := by decide +kernel
theorem dL_law__626 : decode cL_law_ 626 = .ok (.aload_n 0, 1) := by decide +kernel
theorem dL_law__627 : decode cL_law_ 627 = .ok (.iload 4, 2) := by decide +kernel
theorem dL_law__629 : decode cL_law_ 629 = .ok (.iconst 2, 1) := by decide +kernel
theorem dL_law__630 : decode cL_law_ 630 = .ok (.iadd, 1) := by decide +kernel
theorem dL_law__631 : decode cL_law_ 631 = .ok (.iaload, 1) := by decide +kernel
theorem dL_law__632 : decode cL_law_ 632 = .ok (.aload_n 3, 1) := by decide +kernel
theorem dL_law__633 : decode cL_law_ 633 = .ok (.invokestatic 184, 3) := by decide +kernel
theorem dL_law__636 : decode cL_law_ 636 = .ok (.istore 5, 2) := by decide +kernel
theorem dL_law__638 : decode cL_law_ 638 = .ok (.aload_n 2, 1) := by decide +kernel
theorem dL_law__639 : decode cL_law_ 639 = .ok (.aload_n 0, 1) := by decide +kernel
theorem dL_law__640 : decode cL_law_ 640 = .ok (.iload 4, 2) := by decide +kernel
theorem dL_law__642 : decode cL_law_ 642 = .ok (.iconst 1, 1) := by decide +kernel
theorem dL_law__643 : decode cL_law_ 643 = .ok (.iadd, 1) := by decide +kernel
theorem dL_law__644 : decode cL_law_ 644 = .ok (.iaload, 1) := by decide +kernel
theorem dL_law__645 : decode cL_law_ 645 = .ok (.aload_n 0, 1) := by decide +kernel
theorem dL_law__646 : decode cL_law_ 646 = .ok (.iload 4, 2) := by decide +kernel
theorem dL_law__648 : decode cL_law_ 648 = .ok (.iconst 2, 1) := by decide +kernel
theorem dL_law__649 : decode cL_law_ 649 = .ok (.iadd, 1) := by decide +kernel
theorem dL_law__650 : decode cL_law_ 650 = .ok (.iaload, 1) := by decide +kernel
theorem dL_law__651 : decode cL_law_ 651 = .ok (.invokevirtual 186, 3) := by decide +kernel
theorem dL_law__654 : decode cL_law_ 654 = .ok (.istore 6, 2) := by decide +kernel
theorem dL_law__656 : decode cL_law_ 656 = .ok (.aload_n 2, 1) := by decide +kernel
theorem dL_law__657 : decode cL_law_ 657 = .ok (.invokevirtual 167, 3) := by decide +kernel
theorem dL_law__660 : decode cL_law_ 660 = .ok (.iload 5, 2) := by decide +kernel
theorem dL_law__662 : decode cL_law_ 662 = .ok (.if_icmp .eq 5, 3) := by decide +kernel
theorem dL_law__665 : decode cL_law_ 665 = .ok (.iconst 0, 1) := by decide +kernel
theorem dL_law__666 : decode cL_law_ 666 = .ok (.ireturn, 1) := by decide +kernel
theorem dL_law__667 : decode cL_law_ 667 = .ok (.iload 5, 2) := by decide +kernel
theorem dL_law__669 : decode cL_law_ 669 = .ok (.ifCond .ne 15, 3) := by decide +kernel
theorem dL_law__672 : decode cL_law_ 672 = .ok (.aload_n 3, 1) := by decide +kernel
theorem dL_law__673 : decode cL_law_ 673 = .ok (.iconst 0, 1) := by decide +kernel
theorem dL_law__674 : decode cL_law_ 674 = .ok (.laload, 1) := by decide +kernel
theorem dL_law__675 : decode cL_law_ 675 = .ok (.iload 6, 2) := by decide +kernel
theorem dL_law__677 : decode cL_law_ 677 = .ok (.i2l, 1) := by decide +kernel
theorem dL_law__678 : decode cL_law_ 678 = .ok (.lcmp, 1) := by decide +kernel
theorem dL_law__679 : decode cL_law_ 679 = .ok (.ifCond .eq 5, 3) := by decide +kernel
theorem dL_law__682 : decode cL_law_ 682 = .ok (.iconst 0, 1) := by decide +kernel
theorem dL_law__683 : decode cL_law_ 683 = .ok (.ireturn, 1) := by decide +kernel
theorem dL_law__684 : decode cL_law_ 684 = .ok (.goto 2580, 3) := by decide +kernel
theorem dL_law__687 : decode cL_law_ 687 = .ok (.aload_n 1, 1) := by decide +kernel
theorem dL_law__688 : decode cL_law_ 688 = .ok (.aload_n 0, 1) := by decide +kernel
theorem dL_law__689 : decode cL_law_ 689 = .ok (.iload 4, 2) := by decide +kernel
theorem dL_law__691 : decode cL_law_ 691 = .ok (.iconst 1, 1) := by decide +kernel
theorem dL_law__692 : decode cL_law_ 692 = .ok (.iadd, 1) := by decide +kernel
theorem dL_law__693 : decode cL_law_ 693 = .ok (.iaload, 1) := by decide +kernel
theorem dL_law__694 : decode cL_law_ 694 = .ok (.invokevirtual 187, 3) := by decide +kernel
theorem dL_law__697 : decode cL_law_ 697 = .ok (.aload_n 2, 1) := by decide +kernel
theorem dL_law__698 : decode cL_law_ 698 = .ok (.aload_n 0, 1) := by decide +kernel
theorem dL_law__699 : decode cL_law_ 699 = .ok (.iload 4, 2) := by decide +kernel
theorem dL_law__701 : decode cL_law_ 701 = .ok (.iconst 1, 1) := by decide +kernel
theorem dL_law__702 : decode cL_law_ 702 = .ok (.iadd, 1) := by decide +kernel
theorem dL_law__703 : decode cL_law_ 703 = .ok (.iaload, 1) := by decide +kernel
theorem dL_law__704 : decode cL_law_ 704 = .ok (.invokevirtual 190, 3) := by decide +kernel
theorem dL_law__707 : decode cL_law_ 707 = .ok (.if_icmp .eq 2557, 3) := by decide +kernel
theorem dL_law__710 : decode cL_law_ 710 = .ok (.iconst 0, 1) := by decide +kernel
theorem dL_law__711 : decode cL_law_ 711 = .ok (.ireturn, 1) := by decide +kernel
theorem dL_law__712 : decode cL_law_ 712 = .ok (.aload_n 1, 1) := by decide +kernel
theorem dL_law__713 : decode cL_law_ 713 = .ok (.aload_n 0, 1) := by decide +kernel
theorem dL_law__714 : decode cL_law_ 714 = .ok (.iload 4, 2) := by decide +kernel
theorem dL_law__716 : decode cL_law_ 716 = .ok (.iconst 1, 1) := by decide +kernel
theorem dL_law__717 : decode cL_law_ 717 = .ok (.iadd, 1) := by decide +kernel
theorem dL_law__718 : decode cL_law_ 718 = .ok (.iaload, 1) := by decide +kernel
theorem dL_law__719 : decode cL_law_ 719 = .ok (.aload_n 0, 1) := by decide +kernel
theorem dL_law__720 : decode cL_law_ 720 = .ok (.iload 4, 2) := by decide +kernel
theorem dL_law__722 : decode cL_law_ 722 = .ok (.iconst 2, 1) := by decide +kernel
theorem dL_law__723 : decode cL_law_ 723 = .ok (.iadd, 1) := by decide +kernel
theorem dL_law__724 : decode cL_law_ 724 = .ok (.iaload, 1) := by decide +kernel
theorem dL_law__725 : decode cL_law_ 725 = .ok (.aload_n 3, 1) := by decide +kernel
theorem dL_law__726 : decode cL_law_ 726 = .ok (.invokestatic 191, 3) := by decide +kernel
theorem dL_law__729 : decode cL_law_ 729 = .ok (.istore 5, 2) := by decide +kernel
theorem dL_law__731 : decode cL_law_ 731 = .ok (.aload_n 2, 1) := by decide +kernel
theorem dL_law__732 : decode cL_law_ 732 = .ok (.aload_n 0, 1) := by decide +kernel
theorem dL_law__733 : decode cL_law_ 733 = .ok (.iload 4, 2) := by decide +kernel
theorem dL_law__735 : decode cL_law_ 735 = .ok (.iconst 1, 1) := by decide +kernel
theorem dL_law__736 : decode cL_law_ 736 = .ok (.iadd, 1) := by decide +kernel
theorem dL_law__737 : decode cL_law_ 737 = .ok (.iaload, 1) := by decide +kernel
theorem dL_law__738 : decode cL_law_ 738 = .ok (.aload_n 0, 1) := by decide +kernel
theorem dL_law__739 : decode cL_law_ 739 = .ok (.iload 4, 2) := by decide +kernel
theorem dL_law__741 : decode cL_law_ 741 = .ok (.iconst 2, 1) := by decide +kernel
theorem dL_law__742 : decode cL_law_ 742 = .ok (.iadd, 1) := by decide +kernel
theorem dL_law__743 : decode cL_law_ 743 = .ok (.iaload, 1) := by decide +kernel
theorem dL_law__744 : decode cL_law_ 744 = .ok (.invokevirtual 193, 3) := by decide +kernel
theorem dL_law__747 : decode cL_law_ 747 = .ok (.istore 6, 2) := by decide +kernel
theorem dL_law__749 : decode cL_law_ 749 = .ok (.aload_n 2, 1) := by decide +kernel
theorem dL_law__750 : decode cL_law_ 750 = .ok (.invokevirtual 167, 3) := by decide +kernel
theorem dL_law__753 : decode cL_law_ 753 = .ok (.iload 5, 2) := by decide +kernel
theorem dL_law__755 : decode cL_law_ 755 = .ok (.if_icmp .eq 5, 3) := by decide +kernel
theorem dL_law__758 : decode cL_law_ 758 = .ok (.iconst 0, 1) := by decide +kernel
theorem dL_law__759 : decode cL_law_ 759 = .ok (.ireturn, 1) := by decide +kernel
theorem dL_law__760 : decode cL_law_ 760 = .ok (.iload 5, 2) := by decide +kernel
theorem dL_law__762 : decode cL_law_ 762 = .ok (.ifCond .ne 15, 3) := by decide +kernel
theorem dL_law__765 : decode cL_law_ 765 = .ok (.aload_n 3, 1) := by decide +kernel
theorem dL_law__766 : decode cL_law_ 766 = .ok (.iconst 0, 1) := by decide +kernel
theorem dL_law__767 : decode cL_law_ 767 = .ok (.laload, 1) := by decide +kernel
theorem dL_law__768 : decode cL_law_ 768 = .ok (.iload 6, 2) := by decide +kernel
theorem dL_law__770 : decode cL_law_ 770 = .ok (.i2l, 1) := by decide +kernel
theorem dL_law__771 : decode cL_law_ 771 = .ok (.lcmp, 1) := by decide +kernel
theorem dL_law__772 : decode cL_law_ 772 = .ok (.ifCond .eq 5, 3) := by decide +kernel
theorem dL_law__775 : decode cL_law_ 775 = .ok (.iconst 0, 1) := by decide +kernel
theorem dL_law__776 : decode cL_law_ 776 = .ok (.ireturn, 1) := by decide +kernel
theorem dL_law__777 : decode cL_law_ 777 = .ok (.goto 2487, 3) := by decide +kernel
theorem dL_law__780 : decode cL_law_ 780 = .ok (.aload_n 1, 1) := by decide +kernel
theorem dL_law__781 : decode cL_law_ 781 = .ok (.aload_n 0, 1) := by decide +kernel
theorem dL_law__782 : decode cL_law_ 782 = .ok (.iload 4, 2) := by decide +kernel
theorem dL_law__784 : decode cL_law_ 784 = .ok (.iconst 1, 1) := by decide +kernel
theorem dL_law__785 : decode cL_law_ 785 = .ok (.iadd, 1) := by decide +kernel
theorem dL_law__786 : decode cL_law_ 786 = .ok (.iaload, 1) := by decide +kernel
theorem dL_law__787 : decode cL_law_ 787 = .ok (.aload_n 0, 1) := by decide +kernel
theorem dL_law__788 : decode cL_law_ 788 = .ok (.iload 4, 2) := by decide +kernel
theorem dL_law__790 : decode cL_law_ 790 = .ok (.iconst 2, 1) := by decide +kernel
theorem dL_law__791 : decode cL_law_ 791 = .ok (.iadd, 1) := by decide +kernel
theorem dL_law__792 : decode cL_law_ 792 = .ok (.iaload, 1) := by decide +kernel
theorem dL_law__793 : decode cL_law_ 793 = .ok (.aload_n 3, 1) := by decide +kernel
theorem dL_law__794 : decode cL_law_ 794 = .ok (.invokestatic 194, 3) := by decide +kernel
theorem dL_law__797 : decode cL_law_ 797 = .ok (.istore 5, 2) := by decide +kernel
theorem dL_law__799 : decode cL_law_ 799 = .ok (.aload_n 2, 1) := by decide +kernel
theorem dL_law__800 : decode cL_law_ 800 = .ok (.aload_n 0, 1) := by decide +kernel
theorem dL_law__801 : decode cL_law_ 801 = .ok (.iload 4, 2) := by decide +kernel
theorem dL_law__803 : decode cL_law_ 803 = .ok (.iconst 1, 1) := by decide +kernel
theorem dL_law__804 : decode cL_law_ 804 = .ok (.iadd, 1) := by decide +kernel
theorem dL_law__805 : decode cL_law_ 805 = .ok (.iaload, 1) := by decide +kernel
theorem dL_law__806 : decode cL_law_ 806 = .ok (.aload_n 0, 1) := by decide +kernel
theorem dL_law__807 : decode cL_law_ 807 = .ok (.iload 4, 2) := by decide +kernel
theorem dL_law__809 : decode cL_law_ 809 = .ok (.iconst 2, 1) := by decide +kernel
theorem dL_law__810 : decode cL_law_ 810 = .ok (.iadd, 1) := by decide +kernel
theorem dL_law__811 : decode cL_law_ 811 = .ok (.iaload, 1) := by decide +kernel
theorem dL_law__812 : decode cL_law_ 812 = .ok (.invokevirtual 196, 3) := by decide +kernel
theorem dL_law__815 : decode cL_law_ 815 = .ok (.istore 6, 2) := by decide +kernel
theorem dL_law__817 : decode cL_law_ 817 = .ok (.aload_n 2, 1) := by decide +kernel
theorem dL_law__818 : decode cL_law_ 818 = .ok (.invokevirtual 167, 3) := by decide +kernel
theorem dL_law__821 : decode cL_law_ 821 = .ok (.iload 5, 2) := by decide +kernel
theorem dL_law__823 : decode cL_law_ 823 = .ok (.if_icmp .eq 5, 3) := by decide +kernel
theorem dL_law__826 : decode cL_law_ 826 = .ok (.iconst 0, 1) := by decide +kernel
theorem dL_law__827 : decode cL_law_ 827 = .ok (.ireturn, 1) := by decide +kernel
theorem dL_law__828 : decode cL_law_ 828 = .ok (.iload 5, 2) := by decide +kernel
theorem dL_law__830 : decode cL_law_ 830 = .ok (.ifCond .ne 15, 3) := by decide +kernel
theorem dL_law__833 : decode cL_law_ 833 = .ok (.aload_n 3, 1) := by decide +kernel
theorem dL_law__834 : decode cL_law_ 834 = .ok (.iconst 0, 1) := by decide +kernel
