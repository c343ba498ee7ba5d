theorem dL_law__0 : decode cL_law_ 0 = .ok (.new 8, 3) := by decide +kernel
theorem dL_law__3 : decode cL_law_ 3 = .ok (.dup, 1) := by decide +kernel
theorem dL_law__4 : decode cL_law_ 4 = .ok (.invokespecial 126, 3) := by decide +kernel
theorem dL_law__7 : decode cL_law_ 7 = .ok (.astore_n 1, 1) := by decide +kernel
theorem dL_law__8 : decode cL_law_ 8 = .ok (.new 127, 3) := by decide +kernel
theorem dL_law__11 : decode cL_law_ 11 = .ok (.dup, 1) := by decide +kernel
theorem dL_law__12 : decode cL_law_ 12 = .ok (.invokespecial 129, 3) := by decide +kernel
theorem dL_law__15 : decode cL_law_ 15 = .ok (.astore_n 2, 1) := by decide +kernel
theorem dL_law__16 : decode cL_law_ 16 = .ok (.iconst 1, 1) := by decide +kernel
theorem dL_law__17 : decode cL_law_ 17 = .ok (.newarray .long, 2) := by decide +kernel
theorem dL_law__19 : decode cL_law_ 19 = .ok (.astore_n 3, 1) := by decide +kernel
theorem dL_law__20 : decode cL_law_ 20 = .ok (.iconst 0, 1) := by decide +kernel
theorem dL_law__21 : decode cL_law_ 21 = .ok (.istore 4, 2) := by decide +kernel
theorem dL_law__23 : decode cL_law_ 23 = .ok (.iload 4, 2) := by decide +kernel
theorem dL_law__25 : decode cL_law_ 25 = .ok (.aload_n 0, 1) := by decide +kernel
theorem dL_law__26 : decode cL_law_ 26 = .ok (.arraylength, 1) := by decide +kernel
theorem dL_law__27 : decode cL_law_ 27 = .ok (.bipush 6, 2) := by decide +kernel
theorem dL_law__29 : decode cL_law_ 29 = .ok (.isub, 1) := by decide +kernel
theorem dL_law__30 : decode cL_law_ 30 = .ok (.if_icmp .gt 2714, 3) := by decide +kernel
theorem dL_law__33 : decode cL_law_ 33 = .ok (.aload_n 0, 1) := by decide +kernel
theorem dL_law__34 : decode cL_law_ 34 = .ok (.iload 4, 2) := by decide +kernel
theorem dL_law__36 : decode cL_law_ 36 = .ok (.iaload, 1) := by decide +kernel
theorem dL_law__37 : decode cL_law_ 37 = .ok (.bipush 63, 2) := by decide +kernel
theorem dL_law__39 : decode cL_law_ 39 = .ok (.iand, 1) := by decide +kernel
theorem dL_law__40 : decode cL_law_ 40 = .ok (.tableswitch 2698 0 49 #[216, 289, 314, 358, 402, 415, 483, 551, 619, 632, 688, 768, 804, 860, 928, 996, 1087, 1143, 1211, 1295, 1363, 1419, 1487, 1543, 1556, 1569, 1653, 1709, 1750, 1806, 1862, 1934, 1978, 2034, 2102, 2115, 2128, 2196, 2209, 2222, 2278, 2291, 2375, 2459, 2543, 2611, 2636, 2649, 2660, 2673], 216) := by decide +kernel
theorem dL_law__256 : decode cL_law_ 256 = .ok (.aload_n 1, 1) := by decide +kernel
theorem dL_law__257 : decode cL_law_ 257 = .ok (.aload_n 0, 1) := by decide +kernel
theorem dL_law__258 : decode cL_law_ 258 = .ok (.iload 4, 2) := by decide +kernel
theorem dL_law__260 : decode cL_law_ 260 = .ok (.iconst 1, 1) := by decide +kernel
theorem dL_law__261 : decode cL_law_ 261 = .ok (.iadd, 1) := by decide +kernel
theorem dL_law__262 : decode cL_law_ 262 = .ok (.iaload, 1) := by decide +kernel
theorem dL_law__263 : decode cL_law_ 263 = .ok (.aload_n 0, 1) := by decide +kernel
theorem dL_law__264 : decode cL_law_ 264 = .ok (.iload 4, 2) := by decide +kernel
theorem dL_law__266 : decode cL_law_ 266 = .ok (.iconst 2, 1) := by decide +kernel
theorem dL_law__267 : decode cL_law_ 267 = .ok (.iadd, 1) := by decide +kernel
theorem dL_law__268 : decode cL_law_ 268 = .ok (.iaload, 1) := by decide +kernel
theorem dL_law__269 : decode cL_law_ 269 = .ok (.aload_n 0, 1) := by decide +kernel
theorem dL_law__270 : decode cL_law_ 270 = .ok (.iload 4, 2) := by decide +kernel
theorem dL_law__272 : decode cL_law_ 272 = .ok (.iconst 3, 1) := by decide +kernel
theorem dL_law__273 : decode cL_law_ 273 = .ok (.iadd, 1) := by decide +kernel
theorem dL_law__274 : decode cL_law_ 274 = .ok (.iaload, 1) := by decide +kernel
theorem dL_law__275 : decode cL_law_ 275 = .ok (.aload_n 0, 1) := by decide +kernel
theorem dL_law__276 : decode cL_law_ 276 = .ok (.iload 4, 2) := by decide +kernel
theorem dL_law__278 : decode cL_law_ 278 = .ok (.iconst 4, 1) := by decide +kernel
theorem dL_law__279 : decode cL_law_ 279 = .ok (.iadd, 1) := by decide +kernel
theorem dL_law__280 : decode cL_law_ 280 = .ok (.iaload, 1) := by decide +kernel
theorem dL_law__281 : decode cL_law_ 281 = .ok (.aload_n 0, 1) := by decide +kernel
theorem dL_law__282 : decode cL_law_ 282 = .ok (.iload 4, 2) := by decide +kernel
theorem dL_law__284 : decode cL_law_ 284 = .ok (.iconst 5, 1) := by decide +kernel
theorem dL_law__285 : decode cL_law_ 285 = .ok (.iadd, 1) := by decide +kernel
theorem dL_law__286 : decode cL_law_ 286 = .ok (.iaload, 1) := by decide +kernel
theorem dL_law__287 : decode cL_law_ 287 = .ok (.invokevirtual 130, 3) := by decide +kernel
theorem dL_law__290 : decode cL_law_ 290 = .ok (.aload_n 2, 1) := by decide +kernel
theorem dL_law__291 : decode cL_law_ 291 = .ok (.aload_n 0, 1) := by decide +kernel
theorem dL_law__292 : decode cL_law_ 292 = .ok (.iload 4, 2) := by decide +kernel
theorem dL_law__294 : decode cL_law_ 294 = .ok (.iconst 1, 1) := by decide +kernel
theorem dL_law__295 : decode cL_law_ 295 = .ok (.iadd, 1) := by decide +kernel
theorem dL_law__296 : decode cL_law_ 296 = .ok (.iaload, 1) := by decide +kernel
theorem dL_law__297 : decode cL_law_ 297 = .ok (.aload_n 0, 1) := by decide +kernel
theorem dL_law__298 : decode cL_law_ 298 = .ok (.iload 4, 2) := by decide +kernel
theorem dL_law__300 : decode cL_law_ 300 = .ok (.iconst 2, 1) := by decide +kernel
theorem dL_law__301 : decode cL_law_ 301 = .ok (.iadd, 1) := by decide +kernel
theorem dL_law__302 : decode cL_law_ 302 = .ok (.iaload, 1) := by decide +kernel
theorem dL_law__303 : decode cL_law_ 303 = .ok (.aload_n 0, 1) := by decide +kernel
theorem dL_law__304 : decode cL_law_ 304 = .ok (.iload 4, 2) := by decide +kernel
theorem dL_law__306 : decode cL_law_ 306 = .ok (.iconst 3, 1) := by decide +kernel
theorem dL_law__307 : decode cL_law_ 307 = .ok (.iadd, 1) := by decide +kernel
theorem dL_law__308 : decode cL_law_ 308 = .ok (.iaload, 1) := by decide +kernel
theorem dL_law__309 : decode cL_law_ 309 = .ok (.aload_n 0, 1) := by decide +kernel
theorem dL_law__310 : decode cL_law_ 310 = .ok (.iload 4, 2) := by decide +kernel
theorem dL_law__312 : decode cL_law_ 312 = .ok (.iconst 4, 1) := by decide +kernel
theorem dL_law__313 : decode cL_law_ 313 = .ok (.iadd, 1) := by decide +kernel
theorem dL_law__314 : decode cL_law_ 314 = .ok (.iaload, 1) := by decide +kernel
theorem dL_law__315 : decode cL_law_ 315 = .ok (.aload_n 0, 1) := by decide +kernel
theorem dL_law__316 : decode cL_law_ 316 = .ok (.iload 4, 2) := by decide +kernel
theorem dL_law__318 : decode cL_law_ 318 = .ok (.iconst 5, 1) := by decide +kernel
theorem dL_law__319 : decode cL_law_ 319 = .ok (.iadd, 1) := by decide +kernel
theorem dL_law__320 : decode cL_law_ 320 = .ok (.iaload, 1) := by decide +kernel
theorem dL_law__321 : decode cL_law_ 321 = .ok (.invokevirtual 134, 3) := by decide +kernel
theorem dL_law__324 : decode cL_law_ 324 = .ok (.if_icmp .eq 2414, 3) := by decide +kernel
theorem dL_law__327 : decode cL_law_ 327 = .ok (.iconst 0, 1) := by decide +kernel
theorem dL_law__328 : decode cL_law_ 328 = .ok (.ireturn, 1) := by decide +kernel
theorem dL_law__329 : decode cL_law_ 329 = .ok (.aload_n 1, 1) := by decide +kernel
theorem dL_law__330 : decode cL_law_ 330 = .ok (.aload_n 0, 1) := by decide +kernel
theorem dL_law__331 : decode cL_law_ 331 = .ok (.iload 4, 2) := by decide +kernel
theorem dL_law__333 : decode cL_law_ 333 = .ok (.iconst 1, 1) := by decide +kernel
theorem dL_law__334 : decode cL_law_ 334 = .ok (.iadd, 1) := by decide +kernel
theorem dL_law__335 : decode cL_law_ 335 = .ok (.iaload, 1) := by decide +kernel
theorem dL_law__336 : decode cL_law_ 336 = .ok (.invokevirtual 135, 3) := by decide +kernel
theorem dL_law__339 : decode cL_law_ 339 = .ok (.aload_n 2, 1) := by decide +kernel
theorem dL_law__340 : decode cL_law_ 340 = .ok (.aload_n 0, 1) := by decide +kernel
theorem dL_law__341 : decode cL_law_ 341 = .ok (.iload 4, 2) := by decide +kernel
theorem dL_law__343 : decode cL_law_ 343 = .ok (.iconst 1, 1) := by decide +kernel
theorem dL_law__344 : decode cL_law_ 344 = .ok (.iadd, 1) := by decide +kernel
theorem dL_law__345 : decode cL_law_ 345 = .ok (.iaload, 1) := by decide +kernel
theorem dL_law__346 : decode cL_law_ 346 = .ok (.invokevirtual 139, 3) := by decide +kernel
theorem dL_law__349 : decode cL_law_ 349 = .ok (.if_icmp .eq 2389, 3) := by decide +kernel
theorem dL_law__352 : decode cL_law_ 352 = .ok (.iconst 0, 1) := by decide +kernel
theorem dL_law__353 : decode cL_law_ 353 = .ok (.ireturn, 1) := by decide +kernel
theorem dL_law__354 : decode cL_law_ 354 = .ok (.aload_n 1, 1) := by decide +kernel
theorem dL_law__355 : decode cL_law_ 355 = .ok (.aload_n 3, 1) := by decide +kernel
theorem dL_law__356 : decode cL_law_ 356 = .ok (.invokestatic 140, 3) := by decide +kernel
theorem dL_law__359 : decode cL_law_ 359 = .ok (.istore 5, 2) := by decide +kernel
theorem dL_law__361 : decode cL_law_ 361 = .ok (.aload_n 2, 1) := by decide +kernel
theorem dL_law__362 : decode cL_law_ 362 = .ok (.invokevirtual 145, 3) := by decide +kernel
theorem dL_law__365 : decode cL_law_ 365 = .ok (.istore 6, 2) := by decide +kernel
theorem dL_law__367 : decode cL_law_ 367 = .ok (.aload_n 2, 1) := by decide +kernel
theorem dL_law__368 : decode cL_law_ 368 = .ok (.invokevirtual 146, 3) := by decide +kernel
theorem dL_law__371 : decode cL_law_ 371 = .ok (.iload 5, 2) := by decide +kernel
theorem dL_law__373 : decode cL_law_ 373 = .ok (.if_icmp .eq 5, 3) := by decide +kernel
theorem dL_law__376 : decode cL_law_ 376 = .ok (.iconst 0, 1) := by decide +kernel
theorem dL_law__377 : decode cL_law_ 377 = .ok (.ireturn, 1) := by decide +kernel
theorem dL_law__378 : decode cL_law_ 378 = .ok (.iload 5, 2) := by decide +kernel
theorem dL_law__380 : decode cL_law_ 380 = .ok (.ifCond .ne 15, 3) := by decide +kernel
theorem dL_law__383 : decode cL_law_ 383 = .ok (.aload_n 3, 1) := by decide +kernel
theorem dL_law__384 : decode cL_law_ 384 = .ok (.iconst 0, 1) := by decide +kernel
theorem dL_law__385 : decode cL_law_ 385 = .ok (.laload, 1) := by decide +kernel
theorem dL_law__386 : decode cL_law_ 386 = .ok (.iload 6, 2) := by decide +kernel
theorem dL_law__388 : decode cL_law_ 388 = .ok (.i2l, 1) := by decide +kernel
theorem dL_law__389 : decode cL_law_ 389 = .ok (.lcmp, 1) := by decide +kernel
theorem dL_law__390 : decode cL_law_ 390 = .ok (.ifCond .eq 5, 3) := by decide +kernel
theorem dL_law__393 : decode cL_law_ 393 = .ok (.iconst 0, 1) := by decide +kernel
theorem dL_law__394 : decode cL_law_ 394 = .ok (.ireturn, 1) := by decide +kernel
theorem dL_law__395 : decode cL_law_ 395 = .ok (.goto 2343, 3) := by decide +kernel
theorem dL_law__398 : decode cL_law_ 398 = .ok (.aload_n 1, 1) := by decide +kernel
theorem dL_law__399 : decode cL_law_ 399 = .ok (.aload_n 3, 1) := by decide +kernel
theorem dL_law__400 : decode cL_law_ 400 = .ok (.invokestatic 149, 3) := by decide +kernel
theorem dL_law__403 : decode cL_law_ 403 = .ok (.istore 5, 2) := by decide +kernel
theorem dL_law__405 : decode cL_law_ 405 = .ok (.aload_n 2, 1) := by decide +kernel
theorem dL_law__406 : decode cL_law_ 406 = .ok (.invokevirtual 151, 3) := by decide +kernel
theorem dL_law__409 : decode cL_law_ 409 = .ok (.istore 6, 2) := by decide +kernel
theorem dL_law__411 : decode cL_law_ 411 = .ok (.aload_n 2, 1) := by decide +kernel
theorem dL_law__412 : decode cL_law_ 412 = .ok (.invokevirtual 146, 3) := by decide +kernel
theorem dL_law__415 : decode cL_law_ 415 = .ok (.iload 5, 2) := by decide +kernel
theorem dL_law__417 : decode cL_law_ 417 = .ok (.if_icmp .eq 5, 3) := by decide +kernel
theorem dL_law__420 : decode cL_law_ 420 = .ok (.iconst 0, 1) := by decide +kernel
theorem dL_law__421 : decode cL_law_ 421 = .ok (.ireturn, 1) := by decide +kernel
theorem dL_law__422 : decode cL_law_ 422 = .ok (.iload 5, 2) := by decide +kernel
theorem dL_law__424 : decode cL_law_ 424 = .ok (.ifCond .ne 15, 3) := by decide +kernel
theorem dL_law__427 : decode cL_law_ 427 = .ok (.aload_n 3, 1) := by decide +kernel
theorem dL_law__428 : decode cL_law_ 428 = .ok (.iconst 0, 1) := by decide +kernel
theorem dL_law__429 : decode cL_law_ 429 = .ok (.laload, 1) := by decide +kernel
theorem dL_law__430 : decode cL_law_ 430 = .ok (.iload 6, 2) := by decide +kernel
theorem dL_law__432 : decode cL_law_ 432 = .ok (.i2l, 1) := by decide +kernel
theorem dL_law__433 : decode cL_law_ 433 = .ok (.lcmp, 1) := by decide +kernel
theorem dL_law__434 : decode cL_law_ 434 = .ok (.ifCond .eq 5, 3) := by decide +kernel
theorem dL_law__437 : decode cL_law_ 437 = .ok (.iconst 0, 1) := by decide +kernel
theorem dL_law__438 : decode cL_law_ 438 = .ok (.ireturn, 1) := by decide +kernel
theorem dL_law__439 : decode cL_law_ 439 = .ok (.goto 2299, 3) := by decide +kernel
theorem dL_law__442 : decode cL_law_ 442 = .ok (.aload_n 1, 1) := by decide +kernel
theorem dL_law__443 : decode cL_law_ 443 = .ok (.invokevirtual 152, 3) := by decide +kernel
theorem dL_law__446 : decode cL_law_ 446 = .ok (.aload_n 2, 1) := by decide +kernel
theorem dL_law__447 : decode cL_law_ 447 = .ok (.invokevirtual 155, 3) := by decide +kernel
theorem dL_law__450 : decode cL_law_ 450 = .ok (.if_icmp .eq 2288, 3) := by decide +kernel
theorem dL_law__453 : decode cL_law_ 453 = .ok (.iconst 0, 1) := by decide +kernel
theorem dL_law__454 : decode cL_law_ 454 = .ok (.ireturn, 1) := by decide +kernel
theorem dL_law__455 : decode cL_law_ 455 = .ok (.aload_n 1, 1) := by decide +kernel
theorem dL_law__456 : decode cL_law_ 456 = .ok (.aload_n 0, 1) := by decide +kernel
theorem dL_law__457 : decode cL_law_ 457 = .ok (.iload 4, 2) := by decide +kernel
theorem dL_law__459 : decode cL_law_ 459 = .ok (.iconst 1, 1) := by decide +kernel
theorem dL_law__460 : decode cL_law_ 460 = .ok (.iadd, 1) := by decide +kernel
theorem dL_law__461 : decode cL_law_ 461 = .ok (.iaload, 1) := by decide +kernel
theorem dL_law__462 : decode cL_law_ 462 = .ok (.aload_n 0, 1) := by decide +kernel
theorem dL_law__463 : decode cL_law_ 463 = .ok (.iload 4, 2) := by decide +kernel
theorem dL_law__465 : decode cL_law_ 465 = .ok (.iconst 2, 1) := by decide +kernel
theorem dL_law__466 : decode cL_law_ 466 = .ok (.iadd, 1) := by decide +kernel
theorem dL_law__467 : decode cL_law_ 467 = .ok (.iaload, 1) := by decide +kernel
theorem dL_law__468 : decode cL_law_ 468 = .ok (.aload_n 3, 1) := by decide +kernel
theorem dL_law__469 : decode cL_law_ 469 = .ok (.invokestatic 156, 3) := by decide +kernel
theorem dL_law__472 : decode cL_law_ 472 = .ok (.istore 5, 2) := by decide +kernel
theorem dL_law__474 : decode cL_law_ 474 = .ok (.aload_n 2, 1) := by decide +kernel
theorem dL_law__475 : decode cL_law_ 475 = .ok (.aload_n 0, 1) := by decide +kernel
theorem dL_law__476 : decode cL_law_ 476 = .ok (.iload 4, 2) := by decide +kernel
theorem dL_law__478 : decode cL_law_ 478 = .ok (.iconst 1, 1) := by decide +kernel
theorem dL_law__479 : decode cL_law_ 479 = .ok (.iadd, 1) := by decide +kernel
theorem dL_law__480 : decode cL_law_ 480 = .ok (.iaload, 1) := by decide +kernel
theorem dL_law__481 : decode cL_law_ 481 = .ok (.aload_n 0, 1) := by decide +kernel
theorem dL_law__482 : decode cL_law_ 482 = .ok (.iload 4, 2) := by decide +kernel
theorem dL_law__484 : decode cL_law_ 484 = .ok (.iconst 2, 1) := by decide +kernel
theorem dL_law__485 : decode cL_law_ 485 = .ok (.iadd, 1) := by decide +kernel
theorem dL_law__486 : decode cL_law_ 486 = .ok (.iaload, 1) := by decide +kernel
theorem dL_law__487 : decode cL_law_ 487 = .ok (.invokevirtual 159, 3) := by decide +kernel
theorem dL_law__490 : decode cL_law_ 490 = .ok (.istore 6, 2) := by decide +kernel
theorem dL_law__492 : decode cL_law_ 492 = .ok (.aload_n 2, 1) := by decide +kernel
theorem dL_law__493 : decode cL_law_ 493 = .ok (.invokevirtual 146, 3) := by decide +kernel
theorem dL_law__496 : decode cL_law_ 496 = .ok (.iload 5, 2) := by decide +kernel
theorem dL_law__498 : decode cL_law_ 498 = .ok (.if_icmp .eq 5, 3) := by decide +kernel
theorem dL_law__501 : decode cL_law_ 501 = .ok (.iconst 0, 1) := by decide +kernel
theorem dL_law__502 : decode cL_law_ 502 = .ok (.ireturn, 1) := by decide +kernel
theorem dL_law__503 : decode cL_law_ 503 = .ok (.iload 5, 2) := by decide +kernel
theorem dL_law__505 : decode cL_law_ 505 = .ok (.ifCond .ne 15, 3) := by decide +kernel
theorem dL_law__508 : decode cL_law_ 508 = .ok (.aload_n 3, 1) := by decide +kernel
theorem dL_law__509 : decode cL_law_ 509 = .ok (.iconst 0, 1) := by decide +kernel
theorem dL_law__510 : decode cL_law_ 510 = .ok (.laload, 1) := by decide +kernel
theorem dL_law__511 : decode cL_law_ 511 = .ok (.iload 6, 2) := by decide +kernel
theorem dL_law__513 : decode cL_law_ 513 = .ok (.i2l, 1) := by decide +kernel
theorem dL_law__514 : decode cL_law_ 514 = .ok (.lcmp, 1) := by decide +kernel
theorem dL_law__515 : decode cL_law_ 515 = .ok (.ifCond .eq 5, 3) := by decide +kernel
theorem dL_law__518 : decode cL_law_ 518 = .ok (.iconst 0, 1) := by decide +kernel
theorem dL_law__519 : decode cL_law_ 519 = .ok (.ireturn, 1) := by decide +kernel
theorem dL_law__520 : decode cL_law_ 520 = .ok (.goto 2218, 3) := by decide +kernel
theorem dL_law__523 : decode cL_law_ 523 = .ok (.aload_n 1, 1) := by decide +kernel
theorem dL_law__524 : decode cL_law_ 524 = .ok (.aload_n 0, 1) := by decide +kernel
theorem dL_law__525 : decode cL_law_ 525 = .ok (.iload 4, 2) := by decide +kernel
theorem dL_law__527 : decode cL_law_ 527 = .ok (.iconst 1, 1) := by decide +kernel
theorem dL_law__528 : decode cL_law_ 528 = .ok (.iadd, 1) := by decide +kernel
theorem dL_law__529 : decode cL_law_ 529 = .ok (.iaload, 1) := by decide +kernel
theorem dL_law__530 : decode cL_law_ 530 = .ok (.aload_n 0, 1) := by decide +kernel
theorem dL_law__531 : decode cL_law_ 531 = .ok (.iload 4, 2) := by decide +kernel
theorem dL_law__533 : decode cL_law_ 533 = .ok (.iconst 2, 1) := by decide +kernel
theorem dL_law__534 : decode cL_law_ 534 = .ok (.iadd, 1) := by decide +kernel
theorem dL_law__535 : decode cL_law_ 535 = .ok (.iaload, 1) := by decide +kernel
theorem dL_law__536 : decode cL_law_ 536 = .ok (.aload_n 3, 1) := by decide +kernel
theorem dL_law__537 : decode cL_law_ 537 = .ok (.invokestatic 160, 3) := by decide +kernel
theorem dL_law__540 : decode cL_law_ 540 = .ok (.istore 5, 2) := by decide +kernel
theorem dL_law__542 : decode cL_law_ 542 = .ok (.aload_n 2, 1) := by decide +kernel
theorem dL_law__543 : decode cL_law_ 543 = .ok (.aload_n 0, 1) := by decide +kernel
theorem dL_law__544 : decode cL_law_ 544 = .ok (.iload 4, 2) := by decide +kernel
theorem dL_law__546 : decode cL_law_ 546 = .ok (.iconst 1, 1) := by decide +kernel
theorem dL_law__547 : decode cL_law_ 547 = .ok (.iadd, 1) := by decide +kernel
theorem dL_law__548 : decode cL_law_ 548 = .ok (.iaload, 1) := by decide +kernel
theorem dL_law__549 : decode cL_law_ 549 = .ok (.aload_n 0, 1) := by decide +kernel
theorem dL_law__550 : decode cL_law_ 550 = .ok (.iload 4, 2) := by decide +kernel
theorem dL_law__552 : decode cL_law_ 552 = .ok (.iconst 2, 1) := by decide +kernel
theorem dL_law__553 : decode cL_law_ 553 = .ok (.iadd, 1) := by decide +kernel
theorem dL_law__554 : decode cL_law_ 554 = .ok (.iaload, 1) := by decide +kernel
theorem dL_law__555 : decode cL_law_ 555 = .ok (.invokevirtual 162, 3) := by decide +kernel
theorem dL_law__558 : decode cL_law_ 558 = .ok (.istore 6, 2) := by decide +kernel
theorem dL_law__560 : decode cL_law_ 560 = .ok (.aload_n 2, 1) := by decide +kernel
theorem dL_law__561 : decode cL_law_ 561 = .ok (.invokevirtual 146, 3) := by decide +kernel
theorem dL_law__564 : decode cL_law_ 564 = .ok (.iload 5, 2) := by decide +kernel
theorem dL_law__566 : decode cL_law_ 566 = .ok (.if_icmp .eq 5, 3) := by decide +kernel
theorem dL_law__569 : decode cL_law_ 569 = .ok (.iconst 0, 1) := by decide +kernel
theorem dL_law__570 : decode cL_law_ 570 = .ok (.ireturn, 1) := by decide +kernel
theorem dL_law__571 : decode cL_law_ 571 = .ok (.iload 5, 2) := by decide +kernel
theorem dL_law__573 : decode cL_law_ 573 = .ok (.ifCond .ne 15, 3) := by decide +kernel
theorem dL_law__576 : decode cL_law_ 576 = .ok (.aload_n 3, 1) := by decide +kernel
theorem dL_law__577 : decode cL_law_ 577 = .ok (.iconst 0, 1) := by decide +kernel
theorem dL_law__578 : decode cL_law_ 578 = .ok (.laload, 1) := by decide +kernel
theorem dL_law__579 : decode cL_law_ 579 = .ok (.iload 6, 2) := by decide +kernel
theorem dL_law__581 : decode cL_law_ 581 = .ok (.i2l, 1) := by decide +kernel
theorem dL_law__582 : decode cL_law_ 582 = .ok (.lcmp, 1) := by decide +kernel
theorem dL_law__583 : decode cL_law_ 583 = .ok (.ifCond .eq 5, 3) := by decide +kernel
theorem dL_law__586 : decode cL_law_ 586 = .ok (.iconst 0, 1) := by decide +kernel
theorem dL_law__587 : decode cL_law_ 587 = .ok (.ireturn, 1) := by decide +kernel
theorem dL_law__588 : decode cL_law_ 588 = .ok (.goto 2150, 3) := by decide +kernel
theorem dL_law__591 : decode cL_law_ 591 = .ok (.aload_n 1, 1) := by decide +kernel
theorem dL_law__592 : decode cL_law_ 592 = .ok (.aload_n 0, 1) := by decide +kernel
theorem dL_law__593 : decode cL_law_ 593 = .ok (.iload 4, 2) := by decide +kernel
theorem dL_law__595 : decode cL_law_ 595 = .ok (.iconst 1, 1) := by decide +kernel
theorem dL_law__596 : decode cL_law_ 596 = .ok (.iadd, 1) := by decide +kernel
theorem dL_law__597 : decode cL_law_ 597 = .ok (.iaload, 1) := by decide +kernel
theorem dL_law__598 : decode cL_law_ 598 = .ok (.aload_n 0, 1) := by decide +kernel
theorem dL_law__599 : decode cL_law_ 599 = .ok (.iload 4, 2) := by decide +kernel
theorem dL_law__601 : decode cL_law_ 601 = .ok (.iconst 2, 1) := by decide +kernel
theorem dL_law__602 : decode cL_law_ 602 = .ok (.iadd, 1) := by decide +kernel
theorem dL_law__603 : decode cL_law_ 603 = .ok (.iaload, 1) := by decide +kernel
theorem dL_law__604 : decode cL_law_ 604 = .ok (.aload_n 3, 1) := by decide +kernel
theorem dL_law__605 : decode cL_law_ 605 = .ok (.invokestatic 163, 3) := by decide +kernel
theorem dL_law__608 : decode cL_law_ 608 = .ok (.istore 5, 2) := by decide +kernel
theorem dL_law__610 : decode cL_law_ 610 = .ok (.aload_n 2, 1) := by decide +kernel
theorem dL_law__611 : decode cL_law_ 611 = .ok (.aload_n 0, 1) := by decide +kernel
theorem dL_law__612 : decode cL_law_ 612 = .ok (.iload 4, 2) := by decide +kernel
theorem dL_law__614 : decode cL_law_ 614 = .ok (.iconst 1, 1) := by decide +kernel
theorem dL_law__615 : decode cL_law_ 615 = .ok (.iadd, 1) := by decide +kernel
theorem dL_law__616 : decode cL_law_ 616 = .ok (.iaload, 1) := by decide +kernel
theorem dL_law__617 : decode cL_law_ 617 = .ok (.aload_n 0, 1) := by decide +kernel
theorem dL_law__618 : decode cL_law_ 618 = .ok (.iload 4, 2) := by decide +kernel
theorem dL_law__620 : decode cL_law_ 620 = .ok (.iconst 2, 1) := by decide +kernel
theorem dL_law__621 : decode cL_law_ 621 = .ok (.iadd, 1) := by decide +kernel
theorem dL_law__622 : decode cL_law_ 622 = .ok (.iaload, 1) := by decide +kernel
theorem dL_law__623 : decode cL_law_ 623 = .ok (.invokevirtual 165, 3) := by decide +kernel
theorem dL_law__626 : decode cL_law_ 626 = .ok (.istore 6, 2) := by decide +kernel
theorem dL_law__628 : decode cL_law_ 628 = .ok (.aload_n 2, 1) := by decide +kernel
theorem dL_law__629 : decode cL_law_ 629 = .ok (.invokevirtual 146, 3) := by decide +kernel
theorem dL_law__632 : decode cL_law_ 632 = .ok (.iload 5, 2) := by decide +kernel
theorem dL_law__634 : decode cL_law_ 634 = .ok (.if_icmp .eq 5, 3) := by decide +kernel
theorem dL_law__637 : decode cL_law_ 637 = .ok (.iconst 0, 1) := by decide +kernel
theorem dL_law__638 : decode cL_law_ 638 = .ok (.ireturn, 1) := by decide +kernel
theorem dL_law__639 : decode cL_law_ 639 = .ok (.iload 5, 2) := by decide +kernel
theorem dL_law__641 : decode cL_law_ 641 = .ok (.ifCond .ne 15, 3) := by decide +kernel
theorem dL_law__644 : decode cL_law_ 644 = .ok (.aload_n 3, 1) := by decide +kernel
theorem dL_law__645 : decode cL_law_ 645 = .ok (.iconst 0, 1) := by decide +kernel
theorem dL_law__646 : decode cL_law_ 646 = .ok (.laload, 1) := by decide +kernel
theorem dL_law__647 : decode cL_law_ 647 = .ok (.iload 6, 2) := by decide +kernel
theorem dL_law__649 : decode cL_law_ 649 = .ok (.i2l, 1) := by decide +kernel
theorem dL_law__650 : decode cL_law_ 650 = .ok (.lcmp, 1) := by decide +kernel
theorem dL_law__651 : decode cL_law_ 651 = .ok (.ifCond .eq 5, 3) := by decide +kernel
theorem dL_law__654 : decode cL_law_ 654 = .ok (.iconst 0, 1) := by decide +kernel
theorem dL_law__655 : decode cL_law_ 655 = .ok (.ireturn, 1) := by decide +kernel
theorem dL_law__656 : decode cL_law_ 656 = .ok (.goto 2082, 3) := by decide +kernel
theorem dL_law__659 : decode cL_law_ 659 = .ok (.aload_n 1, 1) := by decide +kernel
theorem dL_law__660 : decode cL_law_ 660 = .ok (.invokevirtual 166, 3) := by decide +kernel
theorem dL_law__663 : decode cL_law_ 663 = .ok (.aload_n 2, 1) := by decide +kernel
theorem dL_law__664 : decode cL_law_ 664 = .ok (.invokevirtual 169, 3) := by decide +kernel
theorem dL_law__667 : decode cL_law_ 667 = .ok (.if_icmp .eq 2071, 3) := by decide +kernel
theorem dL_law__670 : decode cL_law_ 670 = .ok (.iconst 0, 1) := by decide +kernel
theorem dL_law__671 : decode cL_law_ 671 = .ok (.ireturn, 1) := by decide +kernel
theorem dL_law__672 : decode cL_law_ 672 = .ok (.aload_n 1, 1) := by decide +kernel
theorem dL_law__673 : decode cL_law_ 673 = .ok (.aload_n 0, 1) := by decide +kernel
theorem dL_law__674 : decode cL_law_ 674 = .ok (.iload 4, 2) := by decide +kernel
theorem dL_law__676 : decode cL_law_ 676 = .ok (.iconst 1, 1) := by decide +kernel
theorem dL_law__677 : decode cL_law_ 677 = .ok (.iadd, 1) := by decide +kernel
theorem dL_law__678 : decode cL_law_ 678 = .ok (.iaload, 1) := by decide +kernel
theorem dL_law__679 : decode cL_law_ 679 = .ok (.aload_n 3, 1) := by decide +kernel
theorem dL_law__680 : decode cL_law_ 680 = .ok (.invokestatic 170, 3) := by decide +kernel
theorem dL_law__683 : decode cL_law_ 683 = .ok (.istore 5, 2) := by decide +kernel
theorem dL_law__685 : decode cL_law_ 685 = .ok (.aload_n 2, 1) := by decide +kernel
theorem dL_law__686 : decode cL_law_ 686 = .ok (.aload_n 0, 1) := by decide +kernel
theorem dL_law__687 : decode cL_law_ 687 = .ok (.iload 4, 2) := by decide +kernel
theorem dL_law__689 : decode cL_law_ 689 = .ok (.iconst 1, 1) := by decide +kernel
theorem dL_law__690 : decode cL_law_ 690 = .ok (.iadd, 1) := by decide +kernel
theorem dL_law__691 : decode cL_law_ 691 = .ok (.iaload, 1) := by decide +kernel
theorem dL_law__692 : decode cL_law_ 692 = .ok (.invokevirtual 173, 3) := by decide +kernel
theorem dL_law__695 : decode cL_law_ 695 = .ok (.istore 6, 2) := by decide +kernel
theorem dL_law__697 : decode cL_law_ 697 = .ok (.aload_n 2, 1) := by decide +kernel
theorem dL_law__698 : decode cL_law_ 698 = .ok (.invokevirtual 146, 3) := by decide +kernel
theorem dL_law__701 : decode cL_law_ 701 = .ok (.iload 5, 2) := by decide +kernel
theorem dL_law__703 : decode cL_law_ 703 = .ok (.if_icmp .eq 5, 3) := by decide +kernel
theorem dL_law__706 : decode cL_law_ 706 = .ok (.iconst 0, 1) := by decide +kernel
theorem dL_law__707 : decode cL_law_ 707 = .ok (.ireturn, 1) := by decide +kernel
theorem dL_law__708 : decode cL_law_ 708 = .ok (.iload 5, 2) := by decide +kernel
theorem dL_law__710 : decode cL_law_ 710 = .ok (.ifCond .ne 15, 3) := by decide +kernel
theorem dL_law__713 : decode cL_law_ 713 = .ok (.aload_n 3, 1) := by decide +kernel
theorem dL_law__714 : decode cL_law_ 714 = .ok (.iconst 0, 1) := by decide +kernel
theorem dL_law__715 : decode cL_law_ 715 = .ok (.laload, 1) := by decide +kernel
theorem dL_law__716 : decode cL_law_ 716 = .ok (.iload 6, 2) := by decide +kernel
theorem dL_law__718 : decode cL_law_ 718 = .ok (.i2l, 1) := by decide +kernel
theorem dL_law__719 : decode cL_law_ 719 = .ok (.lcmp, 1) := by decide +kernel
theorem dL_law__720 : decode cL_law_ 720 = .ok (.ifCond .eq 5, 3) := by decide +kernel
theorem dL_law__723 : decode cL_law_ 723 = .ok (.iconst 0, 1) := by decide +kernel
theorem dL_law__724 : decode cL_law_ 724 = .ok (.ireturn, 1) := by decide +kernel
theorem dL_law__725 : decode cL_law_ 725 = .ok (.goto 2013, 3) := by decide +kernel
theorem dL_law__728 : decode cL_law_ 728 = .ok (.aload_n 1, 1) := by decide +kernel
theorem dL_law__729 : decode cL_law_ 729 = .ok (.aload_n 0, 1) := by decide +kernel
theorem dL_law__730 : decode cL_law_ 730 = .ok (.iload 4, 2) := by decide +kernel
theorem dL_law__732 : decode cL_law_ 732 = .ok (.iconst 1, 1) := by decide +kernel
theorem dL_law__733 : decode cL_law_ 733 = .ok (.iadd, 1) := by decide +kernel
theorem dL_law__734 : decode cL_law_ 734 = .ok (.iaload, 1) := by decide +kernel
theorem dL_law__735 : decode cL_law_ 735 = .ok (.aload_n 0, 1) := by decide +kernel
theorem dL_law__736 : decode cL_law_ 736 = .ok (.iload 4, 2) := by decide +kernel
theorem dL_law__738 : decode cL_law_ 738 = .ok (.iconst 2, 1) := by decide +kernel
theorem dL_law__739 : decode cL_law_ 739 = .ok (.iadd, 1) := by decide +kernel
theorem dL_law__740 : decode cL_law_ 740 = .ok (.iaload, 1) := by decide +kernel
theorem dL_law__741 : decode cL_law_ 741 = .ok (.aload_n 0, 1) := by decide +kernel
theorem dL_law__742 : decode cL_law_ 742 = .ok (.iload 4, 2) := by decide +kernel
theorem dL_law__744 : decode cL_law_ 744 = .ok (.iconst 3, 1) := by decide +kernel
theorem dL_law__745 : decode cL_law_ 745 = .ok (.iadd, 1) := by decide +kernel
theorem dL_law__746 : decode cL_law_ 746 = .ok (.iaload, 1) := by decide +kernel
theorem dL_law__747 : decode cL_law_ 747 = .ok (.aload_n 3, 1) := by decide +kernel
theorem dL_law__748 : decode cL_law_ 748 = .ok (.invokestatic 174, 3) := by decide +kernel
theorem dL_law__751 : decode cL_law_ 751 = .ok (.istore 5, 2) := by decide +kernel
theorem dL_law__753 : decode cL_law_ 753 = .ok (.aload_n 2, 1) := by decide +kernel
theorem dL_law__754 : decode cL_law_ 754 = .ok (.aload_n 0, 1) := by decide +kernel
theorem dL_law__755 : decode cL_law_ 755 = .ok (.iload 4, 2) := by decide +kernel
theorem dL_law__757 : decode cL_law_ 757 = .ok (.iconst 1, 1) := by decide +kernel
theorem dL_law__758 : decode cL_law_ 758 = .ok (.iadd, 1) := by decide +kernel
theorem dL_law__759 : decode cL_law_ 759 = .ok (.iaload, 1) := by decide +kernel
theorem dL_law__760 : decode cL_law_ 760 = .ok (.aload_n 0, 1) := by decide +kernel
theorem dL_law__761 : decode cL_law_ 761 = .ok (.iload 4, 2) := by decide +kernel
theorem dL_law__763 : decode cL_law_ 763 = .ok (.iconst 2, 1) := by decide +kernel
theorem dL_law__764 : decode cL_law_ 764 = .ok (.iadd, 1) := by decide +kernel
theorem dL_law__765 : decode cL_law_ 765 = .ok (.iaload, 1) := by decide +kernel
theorem dL_law__766 : decode cL_law_ 766 = .ok (.aload_n 0, 1) := by decide +kernel
theorem dL_law__767 : decode cL_law_ 767 = .ok (.iload 4, 2) := by decide +kernel
theorem dL_law__769 : decode cL_law_ 769 = .ok (.iconst 3, 1) := by decide +kernel
theorem dL_law__770 : decode cL_law_ 770 = .ok (.iadd, 1) := by decide +kernel
theorem dL_law__771 : decode cL_law_ 771 = .ok (.iaload, 1) := by decide +kernel
theorem dL_law__772 : decode cL_law_ 772 = .ok (.invokevirtual 177, 3) := by decide +kernel
theorem dL_law__775 : decode cL_law_ 775 = .ok (.istore 6, 2) := by decide +kernel
theorem dL_law__777 : decode cL_law_ 777 = .ok (.aload_n 2, 1) := by decide +kernel
theorem dL_law__778 : decode cL_law_ 778 = .ok (.invokevirtual 146, 3) := by decide +kernel
theorem dL_law__781 : decode cL_law_ 781 = .ok (.iload 5, 2) := by decide +kernel
theorem dL_law__783 : decode cL_law_ 783 = .ok (.if_icmp .eq 5, 3) := by decide +kernel
theorem dL_law__786 : decode cL_law_ 786 = .ok (.iconst 0, 1) := by decide +kernel
theorem dL_law__787 : decode cL_law_ 787 = .ok (.ireturn, 1) := by decide +kernel
theorem dL_law__788 : decode cL_law_ 788 = .ok (.iload 5, 2) := by decide +kernel
theorem dL_law__790 : decode cL_law_ 790 = .ok (.ifCond .ne 15, 3) := by decide +kernel
theorem dL_law__793 : decode cL_law_ 793 = .ok (.aload_n 3, 1) := by decide +kernel
theorem dL_law__794 : decode cL_law_ 794 = .ok (.iconst 0, 1) := by decide +kernel
theorem dL_law__795 : decode cL_law_ 795 = .ok (.laload, 1) := by decide +kernel
theorem dL_law__796 : decode cL_law_ 796 = .ok (.iload 6, 2) := by decide +kernel
theorem dL_law__798 : decode cL_law_ 798 = .ok (.i2l, 1) := by decide +kernel
theorem dL_law__799 : decode cL_law_ 799 = .ok (.lcmp, 1) := by decide +kernel
theorem dL_law__800 : decode cL_law_ 800 = .ok (.ifCond .eq 5, 3) := by decide +kernel
theorem dL_law__803 : decode cL_law_ 803 = .ok (.iconst 0, 1) := by decide +kernel
theorem dL_law__804 : decode cL_law_ 804 = .ok (.ireturn, 1) := by decide +kernel
theorem dL_law__805 : decode cL_law_ 805 = .ok (.goto 1933, 3) := by decide +kernel
theorem dL_law__808 : decode cL_law_ 808 = .ok (.aload_n 1, 1) := by decide +kernel
theorem dL_law__809 : decode cL_law_ 809 = .ok (.aload_n 0, 1) := by decide +kernel
theorem dL_law__810 : decode cL_law_ 810 = .ok (.iload 4, 2) := by decide +kernel
theorem dL_law__812 : decode cL_law_ 812 = .ok (.iconst 1, 1) := by decide +kernel
theorem dL_law__813 : decode cL_law_ 813 = .ok (.iadd, 1) := by decide +kernel
theorem dL_law__814 : decode cL_law_ 814 = .ok (.iaload, 1) := by decide +kernel
theorem dL_law__815 : decode cL_law_ 815 = .ok (.invokestatic 178, 3) := by decide +kernel
theorem dL_law__818 : decode cL_law_ 818 = .ok (.istore 5, 2) := by decide +kernel
theorem dL_law__820 : decode cL_law_ 820 = .ok (.aload_n 2, 1) := by decide +kernel
theorem dL_law__821 : decode cL_law_ 821 = .ok (.aload_n 0, 1) := by decide +kernel
theorem dL_law__822 : decode cL_law_ 822 = .ok (.iload 4, 2) := by decide +kernel
theorem dL_law__824 : decode cL_law_ 824 = .ok (.iconst 1, 1) := by decide +kernel
theorem dL_law__825 : decode cL_law_ 825 = .ok (.iadd, 1) := by decide +kernel
theorem dL_law__826 : decode cL_law_ 826 = .ok (.iaload, 1) := by decide +kernel
theorem dL_law__827 : decode cL_law_ 827 = .ok (.invokevirtual 181, 3) := by decide +kernel
theorem dL_law__830 : decode cL_law_ 830 = .ok (.aload_n 2, 1) := by decide +kernel
theorem dL_law__831 : decode cL_law_ 831 = .ok (.invokevirtual 146, 3) := by decide +kernel
theorem dL_law__834 : decode cL_law_ 834 = .ok (.iload 5, 2) := by decide +kernel
theorem dL_law__836 : decode cL_law_ 836 = .ok (.if_icmp .eq 5, 3) := by decide +kernel
theorem dL_law__839 : decode cL_law_ 839 = .ok (.iconst 0, 1) := by decide +kernel
theorem dL_law__840 : decode cL_law_ 840 = .ok (.ireturn, 1) := by decide +kernel
theorem dL_law__841 : decode cL_law_ 841 = .ok (.goto 1897, 3) := by decide +kernel
theorem dL_law__844 : decode cL_law_ 844 = .ok (.aload_n 1, 1) := by decide +kernel
theorem dL_law__845 : decode cL_law_ 845 = .ok (.aload_n 0, 1) := by decide +kernel
theorem dL_law__846 : decode cL_law_ 846 = .ok (.iload 4, 2) := by decide +kernel
theorem dL_law__848 : decode cL_law_ 848 = .ok (.iconst 1, 1) := by decide +kernel
theorem dL_law__849 : decode cL_law_ 849 = .ok (.iadd, 1) := by decide +kernel
theorem dL_law__850 : decode cL_law_ 850 = .ok (.iaload, 1) := by decide +kernel
theorem dL_law__851 : decode cL_law_ 851 = .ok (.aload_n 3, 1) := by decide +kernel
theorem dL_law__852 : decode cL_law_ 852 = .ok (.invokestatic 182, 3) := by decide +kernel
theorem dL_law__855 : decode cL_law_ 855 = .ok (.istore 5, 2) := by decide +kernel
theorem dL_law__857 : decode cL_law_ 857 = .ok (.aload_n 2, 1) := by decide +kernel
theorem dL_law__858 : decode cL_law_ 858 = .ok (.aload_n 0, 1) := by decide +kernel
theorem dL_law__859 : decode cL_law_ 859 = .ok (.iload 4, 2) := by decide +kernel
theorem dL_law__861 : decode cL_law_ 861 = .ok (.iconst 1, 1) := by decide +kernel
theorem dL_law__862 : decode cL_law_ 862 = .ok (.iadd, 1) := by decide +kernel
theorem dL_law__863 : decode cL_law_ 863 = .ok (.iaload, 1) := by decide +kernel
theorem dL_law__864 : decode cL_law_ 864 = .ok (.invokevirtual 184, 3) := by decide +kernel
theorem dL_law__867 : decode cL_law_ 867 = .ok (.istore 6, 2) := by decide +kernel
theorem dL_law__869 : decode cL_law_ 869 = .ok (.aload_n 2, 1) := by decide +kernel
theorem dL_law__870 : decode cL_law_ 870 = .ok (.invokevirtual 146, 3) := by decide +kernel
theorem dL_law__873 : decode cL_law_ 873 = .ok (.iload 5, 2) := by decide +kernel
theorem dL_law__875 : decode cL_law_ 875 = .ok (.if_icmp .eq 5, 3) := by decide +kernel
theorem dL_law__878 : decode cL_law_ 878 = .ok (.iconst 0, 1) := by decide +kernel
theorem dL_law__879 : decode cL_law_ 879 = .ok (.ireturn, 1) := by decide +kernel
theorem dL_law__880 : decode cL_law_ 880 = .ok (.iload 5, 2) := by decide +kernel
theorem dL_law__882 : decode cL_law_ 882 = .ok (.ifCond .ne 15, 3) := by decide +kernel
theorem dL_law__885 : decode cL_law_ 885 = .ok (.aload_n 3, 1) := by decide +kernel
theorem dL_law__886 : decode cL_law_ 886 = .ok (.iconst 0, 1) := by decide +kernel
theorem dL_law__887 : decode cL_law_ 887 = .ok (.laload, 1) := by decide +kernel
theorem dL_law__888 : decode cL_law_ 888 = .ok (.iload 6, 2) := by decide +kernel
theorem dL_law__890 : decode cL_law_ 890 = .ok (.i2l, 1) := by decide +kernel
theorem dL_law__891 : decode cL_law_ 891 = .ok (.lcmp, 1) := by decide +kernel
theorem dL_law__892 : decode cL_law_ 892 = .ok (.ifCond .eq 5, 3) := by decide +kernel
theorem dL_law__895 : decode cL_law_ 895 = .ok (.iconst 0, 1) := by decide +kernel
theorem dL_law__896 : decode cL_law_ 896 = .ok (.ireturn, 1) := by decide +kernel
theorem dL_law__897 : decode cL_law_ 897 = .ok (.goto 1841, 3) := by decide +kernel
theorem dL_law__900 : decode cL_law_ 900 = .ok (.aload_n 1, 1) := by decide +kernel
theorem dL_law__901 : decode cL_law_ 901 = .ok (.aload_n 0, 1) := by decide +kernel
theorem dL_law__902 : decode cL_law_ 902 = .ok (.iload 4, 2) := by decide +kernel
theorem dL_law__904 : decode cL_law_ 904 = .ok (.iconst 1, 1) := by decide +kernel
theorem dL_law__905 : decode cL_law_ 905 = .ok (.iadd, 1) := by decide +kernel
theorem dL_law__906 : decode cL_law_ 906 = .ok (.iaload, 1) := by decide +kernel
theorem dL_law__907 : decode cL_law_ 907 = .ok (.aload_n 0, 1) := by decide +kernel
theorem dL_law__908 : decode cL_law_ 908 = .ok (.iload 4, 2) := by decide +kernel
theorem dL_law__910 : decode cL_law_ 910 = .ok (.iconst 2, 1) := by decide +kernel
theorem dL_law__911 : decode cL_law_ 911 = .ok (.iadd, 1) := by decide +kernel
theorem dL_law__912 : decode cL_law_ 912 = .ok (.iaload, 1) := by decide +kernel
theorem dL_law__913 : decode cL_law_ 913 = .ok (.aload_n 3, 1) := by decide +kernel
theorem dL_law__914 : decode cL_law_ 914 = .ok (.invokestatic 185, 3) := by decide +kernel
theorem dL_law__917 : decode cL_law_ 917 = .ok (.istore 5, 2) := by decide +kernel
theorem dL_law__919 : decode cL_law_ 919 = .ok (.aload_n 2, 1) := by decide +kernel
theorem dL_law__920 : decode cL_law_ 920 = .ok (.aload_n 0, 1) := by decide +kernel
theorem dL_law__921 : decode cL_law_ 921 = .ok (.iload 4, 2) := by decide +kernel
theorem dL_law__923 : decode cL_law_ 923 = .ok (.iconst 1, 1) := by decide +kernel
theorem dL_law__924 : decode cL_law_ 924 = .ok (.iadd, 1) := by decide +kernel
theorem dL_law__925 : decode cL_law_ 925 = .ok (.iaload, 1) := by decide +kernel
theorem dL_law__926 : decode cL_law_ 926 = .ok (.aload_n 0, 1) := by decide +kernel
theorem dL_law__927 : decode cL_law_ 927 = .ok (.iload 4, 2) := by decide +kernel
theorem dL_law__929 : decode cL_law_ 929 = .ok (.iconst 2, 1) := by decide +kernel
theorem dL_law__930 : decode cL_law_ 930 = .ok (.iadd, 1) := by decide +kernel
theorem dL_law__931 : decode cL_law_ 931 = .ok (.iaload, 1) := by decide +kernel
theorem dL_law__932 : decode cL_law_ 932 = .ok (.invokevirtual 187, 3) := by decide +kernel
theorem dL_law__935 : decode cL_law_ 935 = .ok (.istore 6, 2) := by decide +kernel
theorem dL_law__937 : decode cL_law_ 937 = .ok (.aload_n 2, 1) := by decide +kernel
theorem dL_law__938 : decode cL_law_ 938 = .ok (.invokevirtual 146, 3) := by decide +kernel
theorem dL_law__941 : decode cL_law_ 941 = .ok (.iload 5, 2) := by decide +kernel
theorem dL_law__943 : decode cL_law_ 943 = .ok (.if_icmp .eq 5, 3) := by decide +kernel
theorem dL_law__946 : decode cL_law_ 946 = .ok (.iconst 0, 1) := by decide +kernel
theorem dL_law__947 : decode cL_law_ 947 = .ok (.ireturn, 1) := by decide +kernel
theorem dL_law__948 : decode cL_law_ 948 = .ok (.iload 5, 2) := by decide +kernel
theorem dL_law__950 : decode cL_law_ 950 = .ok (.ifCond .ne 15, 3) := by decide +kernel
theorem dL_law__953 : decode cL_law_ 953 = .ok (.aload_n 3, 1) := by decide +kernel
theorem dL_law__954 : decode cL_law_ 954 = .ok (.iconst 0, 1) := by decide +kernel
theorem dL_law__955 : decode cL_law_ 955 = .ok (.laload, 1) := by decide +kernel
theorem dL_law__956 : decode cL_law_ 956 = .ok (.iload 6, 2) := by decide +kernel
theorem dL_law__958 : decode cL_law_ 958 = .ok (.i2l, 1) := by decide +kernel
theorem dL_law__959 : decode cL_law_ 959 = .ok (.lcmp, 1) := by decide +kernel
theorem dL_law__960 : decode cL_law_ 960 = .ok (.ifCond .eq 5, 3) := by decide +kernel
theorem dL_law__963 : decode cL_law_ 963 = .ok (.iconst 0, 1) := by decide +kernel
theorem dL_law__964 : decode cL_law_ 964 = .ok (.ireturn, 1) := by decide +kernel
theorem dL_law__965 : decode cL_law_ 965 = .ok (.goto 1773, 3) := by decide +kernel
theorem dL_law__968 : decode cL_law_ 968 = .ok (.aload_n 1, 1) := by decide +kernel
theorem dL_law__969 : decode cL_law_ 969 = .ok (.aload_n 0, 1) := by decide +kernel
theorem dL_law__970 : decode cL_law_ 970 = .ok (.iload 4, 2) := by decide +kernel
theorem dL_law__972 : decode cL_law_ 972 = .ok (.iconst 1, 1) := by decide +kernel
theorem dL_law__973 : decode cL_law_ 973 = .ok (.iadd, 1) := by decide +kernel
theorem dL_law__974 : decode cL_law_ 974 = .ok (.iaload, 1) := by decide +kernel
theorem dL_law__975 : decode cL_law_ 975 = .ok (.aload_n 0, 1) := by decide +kernel
theorem dL_law__976 : decode cL_law_ 976 = .ok (.iload 4, 2) := by decide +kernel
theorem dL_law__978 : decode cL_law_ 978 = .ok (.iconst 2, 1) := by decide +kernel
theorem dL_law__979 : decode cL_law_ 979 = .ok (.iadd, 1) := by decide +kernel
theorem dL_law__980 : decode cL_law_ 980 = .ok (.iaload, 1) := by decide +kernel
theorem dL_law__981 : decode cL_law_ 981 = .ok (.aload_n 3, 1) := by decide +kernel
theorem dL_law__982 : decode cL_law_ 982 = .ok (.invokestatic 188, 3) := by decide +kernel
theorem dL_law__985 : decode cL_law_ 985 = .ok (.istore 5, 2) := by decide +kernel
theorem dL_law__987 : decode cL_law_ 987 = .ok (.aload_n 2, 1) := by decide +kernel
theorem dL_law__988 : decode cL_law_ 988 = .ok (.aload_n 0, 1) := by decide +kernel
theorem dL_law__989 : decode cL_law_ 989 = .ok (.iload 4, 2) := by decide +kernel
theorem dL_law__991 : decode cL_law_ 991 = .ok (.iconst 1, 1) := by decide +kernel
theorem dL_law__992 : decode cL_law_ 992 = .ok (.iadd, 1) := by decide +kernel
theorem dL_law__993 : decode cL_law_ 993 = .ok (.iaload, 1) := by decide +kernel
theorem dL_law__994 : decode cL_law_ 994 = .ok (.aload_n 0, 1) := by decide +kernel
theorem dL_law__995 : decode cL_law_ 995 = .ok (.iload 4, 2) := by decide +kernel
theorem dL_law__997 : decode cL_law_ 997 = .ok (.iconst 2, 1) := by decide +kernel
theorem dL_law__998 : decode cL_law_ 998 = .ok (.iadd, 1) := by decide +kernel
theorem dL_law__999 : decode cL_law_ 999 = .ok (.iaload, 1) := by decide +kernel
theorem dL_law__1000 : decode cL_law_ 1000 = .ok (.invokevirtual 190, 3) := by decide +kernel
theorem dL_law__1003 : decode cL_law_ 1003 = .ok (.istore 6, 2) := by decide +kernel
theorem dL_law__1005 : decode cL_law_ 1005 = .ok (.aload_n 2, 1) := by decide +kernel
theorem dL_law__1006 : decode cL_law_ 1006 = .ok (.invokevirtual 146, 3) := by decide +kernel
theorem dL_law__1009 : decode cL_law_ 1009 = .ok (.iload 5, 2) := by decide +kernel
theorem dL_law__1011 : decode cL_law_ 1011 = .ok (.if_icmp .eq 5, 3) := by decide +kernel
theorem dL_law__1014 : decode cL_law_ 1014 = .ok (.iconst 0, 1) := by decide +kernel
theorem dL_law__1015 : decode cL_law_ 1015 = .ok (.ireturn, 1) := by decide +kernel
theorem dL_law__1016 : decode cL_law_ 1016 = .ok (.iload 5, 2) := by decide +kernel
theorem dL_law__1018 : decode cL_law_ 1018 = .ok (.ifCond .ne 15, 3) := by decide +kernel
theorem dL_law__1021 : decode cL_law_ 1021 = .ok (.aload_n 3, 1) := by decide +kernel
theorem dL_law__1022 : decode cL_law_ 1022 = .ok (.iconst 0, 1) := by decide +kernel
theorem dL_law__1023 : decode cL_law_ 1023 = .ok (.laload, 1) := by decide +kernel
theorem dL_law__1024 : decode cL_law_ 1024 = .ok (.iload 6, 2) := by decide +kernel
theorem dL_law__1026 : decode cL_law_ 1026 = .ok (.i2l, 1) := by decide +kernel
theorem dL_law__1027 : decode cL_law_ 1027 = .ok (.lcmp, 1) := by decide +kernel
theorem dL_law__1028 : decode cL_law_ 1028 = .ok (.ifCond .eq 5, 3) := by decide +kernel
theorem dL_law__1031 : decode cL_law_ 1031 = .ok (.iconst 0, 1) := by decide +kernel
theorem dL_law__1032 : decode cL_law_ 1032 = .ok (.ireturn, 1) := by decide +kernel
theorem dL_law__1033 : decode cL_law_ 1033 = .ok (.goto 1705, 3) := by decide +kernel
theorem dL_law__1036 : decode cL_law_ 1036 = .ok (.aload_n 1, 1) := by decide +kernel
theorem dL_law__1037 : decode cL_law_ 1037 = .ok (.aload_n 0, 1) := by decide +kernel
theorem dL_law__1038 : decode cL_law_ 1038 = .ok (.iload 4, 2) := by decide +kernel
theorem dL_law__1040 : decode cL_law_ 1040 = .ok (.iconst 1, 1) := by decide +kernel
theorem dL_law__1041 : decode cL_law_ 1041 = .ok (.iadd, 1) := by decide +kernel
theorem dL_law__1042 : decode cL_law_ 1042 = .ok (.iaload, 1) := by decide +kernel
theorem dL_law__1043 : decode cL_law_ 1043 = .ok (.aload_n 0, 1) := by decide +kernel
theorem dL_law__1044 : decode cL_law_ 1044 = .ok (.iload 4, 2) := by decide +kernel
theorem dL_law__1046 : decode cL_law_ 1046 = .ok (.iconst 2, 1) := by decide +kernel
theorem dL_law__1047 : decode cL_law_ 1047 = .ok (.iadd, 1) := by decide +kernel
theorem dL_law__1048 : decode cL_law_ 1048 = .ok (.iaload, 1) := by decide +kernel
theorem dL_law__1049 : decode cL_law_ 1049 = .ok (.ifCond .eq 7, 3) := by decide +kernel
theorem dL_law__1052 : decode cL_law_ 1052 = .ok (.iconst 1, 1) := by decide +kernel
theorem dL_law__1053 : decode cL_law_ 1053 = .ok (.goto 4, 3) := by decide +kernel
theorem dL_law__1056 : decode cL_law_ 1056 = .ok (.iconst 0, 1) := by decide +kernel
theorem dL_law__1057 : decode cL_law_ 1057 = .ok (.aload_n 3, 1) := by decide +kernel
theorem dL_law__1058 : decode cL_law_ 1058 = .ok (.invokestatic 191, 3) := by decide +kernel
theorem dL_law__1061 : decode cL_law_ 1061 = .ok (.istore 5, 2) := by decide +kernel
theorem dL_law__1063 : decode cL_law_ 1063 = .ok (.aload_n 2, 1) := by decide +kernel
theorem dL_law__1064 : decode cL_law_ 1064 = .ok (.aload_n 0, 1) := by decide +kernel
theorem dL_law__1065 : decode cL_law_ 1065 = .ok (.iload 4, 2) := by decide +kernel
theorem dL_law__1067 : decode cL_law_ 1067 = .ok (.iconst 1, 1) := by decide +kernel
theorem dL_law__1068 : decode cL_law_ 1068 = .ok (.iadd, 1) := by decide +kernel
theorem dL_law__1069 : decode cL_law_ 1069 = .ok (.iaload, 1) := by decide +kernel
theorem dL_law__1070 : decode cL_law_ 1070 = .ok (.aload_n 0, 1) := by decide +kernel
theorem dL_law__1071 : decode cL_law_ 1071 = .ok (.iload 4, 2) := by decide +kernel
theorem dL_law__1073 : decode cL_law_ 1073 = .ok (.iconst 2, 1) := by decide +kernel
theorem dL_law__1074 : decode cL_law_ 1074 = .ok (.iadd, 1) := by decide +kernel
theorem dL_law__1075 : decode cL_law_ 1075 = .ok (.iaload, 1) := by decide +kernel
theorem dL_law__1076 : decode cL_law_ 1076 = .ok (.ifCond .eq 7, 3) := by decide +kernel
theorem dL_law__1079 : decode cL_law_ 1079 = .ok (.iconst 1, 1) := by decide +kernel
theorem dL_law__1080 : decode cL_law_ 1080 = .ok (.goto 4, 3) := by decide +kernel
theorem dL_law__1083 : decode cL_law_ 1083 = .ok (.iconst 0, 1) := by decide +kernel
theorem dL_law__1084 : decode cL_law_ 1084 = .ok (.invokevirtual 194, 3) := by decide +kernel
theorem dL_law__1087 : decode cL_law_ 1087 = .ok (.istore 6, 2) := by decide +kernel
theorem dL_law__1089 : decode cL_law_ 1089 = .ok (.aload_n 2, 1) := by decide +kernel
theorem dL_law__1090 : decode cL_law_ 1090 = .ok (.invokevirtual 146, 3) := by decide +kernel
theorem dL_law__1093 : decode cL_law_ 1093 = .ok (.iload 5, 2) := by decide +kernel
theorem dL_law__1095 : decode cL_law_ 1095 = .ok (.if_icmp .eq 5, 3) := by decide +kernel
theorem dL_law__1098 : decode cL_law_ 1098 = .ok (.iconst 0, 1) := by decide +kernel
theorem dL_law__1099 : decode cL_law_ 1099 = .ok (.ireturn, 1) := by decide +kernel
theorem dL_law__1100 : decode cL_law_ 1100 = .ok (.iload 5, 2) := by decide +kernel
theorem dL_law__1102 : decode cL_law_ 1102 = .ok (.ifCond .ne 22, 3) := by decide +kernel
theorem dL_law__1105 : decode cL_law_ 1105 = .ok (.aload_n 3, 1) := by decide +kernel
theorem dL_law__1106 : decode cL_law_ 1106 = .ok (.iconst 0, 1) := by decide +kernel
theorem dL_law__1107 : decode cL_law_ 1107 = .ok (.laload, 1) := by decide +kernel
theorem dL_law__1108 : decode cL_law_ 1108 = .ok (.iload 6, 2) := by decide +kernel
theorem dL_law__1110 : decode cL_law_ 1110 = .ok (.ifCond .eq 7, 3) := by decide +kernel
theorem dL_law__1113 : decode cL_law_ 1113 = .ok (.lconst 1, 1) := by decide +kernel
theorem dL_law__1114 : decode cL_law_ 1114 = .ok (.goto 4, 3) := by decide +kernel
theorem dL_law__1117 : decode cL_law_ 1117 = .ok (.lconst 0, 1) := by decide +kernel
theorem dL_law__1118 : decode cL_law_ 1118 = .ok (.lcmp, 1) := by decide +kernel
theorem dL_law__1119 : decode cL_law_ 1119 = .ok (.ifCond .eq 5, 3) := by decide +kernel
theorem dL_law__1122 : decode cL_law_ 1122 = .ok (.iconst 0, 1) := by decide +kernel
theorem dL_law__1123 : decode cL_law_ 1123 = .ok (.ireturn, 1) := by decide +kernel
theorem dL_law__1124 : decode cL_law_ 1124 = .ok (.goto 1614, 3) := by decide +kernel
theorem dL_law__1127 : decode cL_law_ 1127 = .ok (.aload_n 1, 1) := by decide +kernel
theorem dL_law__1128 : decode cL_law_ 1128 = .ok (.aload_n 0, 1) := by decide +kernel
theorem dL_law__1129 : decode cL_law_ 1129 = .ok (.iload 4, 2) := by decide +kernel
theorem dL_law__1131 : decode cL_law_ 1131 = .ok (.iconst 1, 1) := by decide +kernel
theorem dL_law__1132 : decode cL_law_ 1132 = .ok (.iadd, 1) := by decide +kernel
theorem dL_law__1133 : decode cL_law_ 1133 = .ok (.iaload, 1) := by decide +kernel
theorem dL_law__1134 : decode cL_law_ 1134 = .ok (.aload_n 3, 1) := by decide +kernel
theorem dL_law__1135 : decode cL_law_ 1135 = .ok (.invokestatic 195, 3) := by decide +kernel
theorem dL_law__1138 : decode cL_law_ 1138 = .ok (.istore 5, 2) := by decide +kernel
theorem dL_law__1140 : decode cL_law_ 1140 = .ok (.aload_n 2, 1) := by decide +kernel
theorem dL_law__1141 : decode cL_law_ 1141 = .ok (.aload_n 0, 1) := by decide +kernel
theorem dL_law__1142 : decode cL_law_ 1142 = .ok (.iload 4, 2) := by decide +kernel
theorem dL_law__1144 : decode cL_law_ 1144 = .ok (.iconst 1, 1) := by decide +kernel
theorem dL_law__1145 : decode cL_law_ 1145 = .ok (.iadd, 1) := by decide +kernel
theorem dL_law__1146 : decode cL_law_ 1146 = .ok (.iaload, 1) := by decide +kernel
theorem dL_law__1147 : decode cL_law_ 1147 = .ok (.invokevirtual 197, 3) := by decide +kernel
theorem dL_law__1150 : decode cL_law_ 1150 = .ok (.istore 6, 2) := by decide +kernel
theorem dL_law__1152 : decode cL_law_ 1152 = .ok (.aload_n 2, 1) := by decide +kernel
theorem dL_law__1153 : decode cL_law_ 1153 = .ok (.invokevirtual 146, 3) := by decide +kernel
theorem dL_law__1156 : decode cL_law_ 1156 = .ok (.iload 5, 2) := by decide +kernel
theorem dL_law__1158 : decode cL_law_ 1158 = .ok (.if_icmp .eq 5, 3) := by decide +kernel
theorem dL_law__1161 : decode cL_law_ 1161 = .ok (.iconst 0, 1) := by decide +kernel
theorem dL_law__1162 : decode cL_law_ 1162 = .ok (.ireturn, 1) := by decide +kernel
theorem dL_law__1163 : decode cL_law_ 1163 = .ok (.iload 5, 2) := by decide +kernel
theorem dL_law__1165 : decode cL_law_ 1165 = .ok (.ifCond .ne 15, 3) := by decide +kernel
theorem dL_law__1168 : decode cL_law_ 1168 = .ok (.aload_n 3, 1) := by decide +kernel
theorem dL_law__1169 : decode cL_law_ 1169 = .ok (.iconst 0, 1) := by decide +kernel
theorem dL_law__1170 : decode cL_law_ 1170 = .ok (.laload, 1) := by decide +kernel
theorem dL_law__1171 : decode cL_law_ 1171 = .ok (.iload 6, 2) := by decide +kernel
theorem dL_law__1173 : decode cL_law_ 1173 = .ok (.i2l, 1) := by decide +kernel
theorem dL_law__1174 : decode cL_law_ 1174 = .ok (.lcmp, 1) := by decide +kernel
theorem dL_law__1175 : decode cL_law_ 1175 = .ok (.ifCond .eq 5, 3) := by decide +kernel
theorem dL_law__1178 : decode cL_law_ 1178 = .ok (.iconst 0, 1) := by decide +kernel
theorem dL_law__1179 : decode cL_law_ 1179 = .ok (.ireturn, 1) := by decide +kernel
theorem dL_law__1180 : decode cL_law_ 1180 = .ok (.goto 1558, 3) := by decide +kernel
theorem dL_law__1183 : decode cL_law_ 1183 = .ok (.aload_n 1, 1) := by decide +kernel
theorem dL_law__1184 : decode cL_law_ 1184 = .ok (.aload_n 0, 1) := by decide +kernel
theorem dL_law__1185 : decode cL_law_ 1185 = .ok (.iload 4, 2) := by decide +kernel
theorem dL_law__1187 : decode cL_law_ 1187 = .ok (.iconst 1, 1) := by decide +kernel
theorem dL_law__1188 : decode cL_law_ 1188 = .ok (.iadd, 1) := by decide +kernel
theorem dL_law__1189 : decode cL_law_ 1189 = .ok (.iaload, 1) := by decide +kernel
theorem dL_law__1190 : decode cL_law_ 1190 = .ok (.aload_n 0, 1) := by decide +kernel
theorem dL_law__1191 : decode cL_law_ 1191 = .ok (.iload 4, 2) := by decide +kernel
theorem dL_law__1193 : decode cL_law_ 1193 = .ok (.iconst 2, 1) := by decide +kernel
theorem dL_law__1194 : decode cL_law_ 1194 = .ok (.iadd, 1) := by decide +kernel
theorem dL_law__1195 : decode cL_law_ 1195 = .ok (.iaload, 1) := by decide +kernel
theorem dL_law__1196 : decode cL_law_ 1196 = .ok (.aload_n 3, 1) := by decide +kernel
theorem dL_law__1197 : decode cL_law_ 1197 = .ok (.invokestatic 198, 3) := by decide +kernel
theorem dL_law__1200 : decode cL_law_ 1200 = .ok (.istore 5, 2) := by decide +kernel
theorem dL_law__1202 : decode cL_law_ 1202 = .ok (.aload_n 2, 1) := by decide +kernel
theorem dL_law__1203 : decode cL_law_ 1203 = .ok (.aload_n 0, 1) := by decide +kernel
theorem dL_law__1204 : decode cL_law_ 1204 = .ok (.iload 4, 2) := by decide +kernel
theorem dL_law__1206 : decode cL_law_ 1206 = .ok (.iconst 1, 1) := by decide +kernel
theorem dL_law__1207 : decode cL_law_ 1207 = .ok (.iadd, 1) := by decide +kernel
theorem dL_law__1208 : decode cL_law_ 1208 = .ok (.iaload, 1) := by decide +kernel
theorem dL_law__1209 : decode cL_law_ 1209 = .ok (.aload_n 0, 1) := by decide +kernel
theorem dL_law__1210 : decode cL_law_ 1210 = .ok (.iload 4, 2) := by decide +kernel
theorem dL_law__1212 : decode cL_law_ 1212 = .ok (.iconst 2, 1) := by decide +kernel
theorem dL_law__1213 : decode cL_law_ 1213 = .ok (.iadd, 1) := by decide +kernel
theorem dL_law__1214 : decode cL_law_ 1214 = .ok (.iaload, 1) := by decide +kernel
theorem dL_law__1215 : decode cL_law_ 1215 = .ok (.invokevirtual 200, 3) := by decide +kernel
theorem dL_law__1218 : decode cL_law_ 1218 = .ok (.istore 6, 2) := by decide +kernel
theorem dL_law__1220 : decode cL_law_ 1220 = .ok (.aload_n 2, 1) := by decide +kernel
theorem dL_law__1221 : decode cL_law_ 1221 = .ok (.invokevirtual 146, 3) := by decide +kernel
theorem dL_law__1224 : decode cL_law_ 1224 = .ok (.iload 5, 2) := by decide +kernel
theorem dL_law__1226 : decode cL_law_ 1226 = .ok (.if_icmp .eq 5, 3) := by decide +kernel
theorem dL_law__1229 : decode cL_law_ 1229 = .ok (.iconst 0, 1) := by decide +kernel
theorem dL_law__1230 : decode cL_law_ 1230 = .ok (.ireturn, 1) := by decide +kernel
theorem dL_law__1231 : decode cL_law_ 1231 = .ok (.iload 5, 2) := by decide +kernel
theorem dL_law__1233 : decode cL_law_ 1233 = .ok (.ifCond .ne 15, 3) := by decide +kernel
theorem dL_law__1236 : decode cL_law_ 1236 = .ok (.aload_n 3, 1) := by decide +kernel
theorem dL_law__1237 : decode cL_law_ 1237 = .ok (.iconst 0, 1) := by decide +kernel
theorem dL_law__1238 : decode cL_law_ 1238 = .ok (.laload, 1) := by decide +kernel
theorem dL_law__1239 : decode cL_law_ 1239 = .ok (.iload 6, 2) := by decide +kernel
theorem dL_law__1241 : decode cL_law_ 1241 = .ok (.i2l, 1) := by decide +kernel
theorem dL_law__1242 : decode cL_law_ 1242 = .ok (.lcmp, 1) := by decide +kernel
theorem dL_law__1243 : decode cL_law_ 1243 = .ok (.ifCond .eq 5, 3) := by decide +kernel
theorem dL_law__1246 : decode cL_law_ 1246 = .ok (.iconst 0, 1) := by decide +kernel
theorem dL_law__1247 : decode cL_law_ 1247 = .ok (.ireturn, 1) := by decide +kernel
theorem dL_law__1248 : decode cL_law_ 1248 = .ok (.goto 1490, 3) := by decide +kernel
theorem dL_law__1251 : decode cL_law_ 1251 = .ok (.aload_n 1, 1) := by decide +kernel
theorem dL_law__1252 : decode cL_law_ 1252 = .ok (.aload_n 0, 1) := by decide +kernel
theorem dL_law__1253 : decode cL_law_ 1253 = .ok (.iload 4, 2) := by decide +kernel
theorem dL_law__1255 : decode cL_law_ 1255 = .ok (.iconst 1, 1) := by decide +kernel
theorem dL_law__1256 : decode cL_law_ 1256 = .ok (.iadd, 1) := by decide +kernel
theorem dL_law__1257 : decode cL_law_ 1257 = .ok (.iaload, 1) := by decide +kernel
theorem dL_law__1258 : decode cL_law_ 1258 = .ok (.aload_n 0, 1) := by decide +kernel
theorem dL_law__1259 : decode cL_law_ 1259 = .ok (.iload 4, 2) := by decide +kernel
theorem dL_law__1261 : decode cL_law_ 1261 = .ok (.iconst 2, 1) := by decide +kernel
theorem dL_law__1262 : decode cL_law_ 1262 = .ok (.iadd, 1) := by decide +kernel
theorem dL_law__1263 : decode cL_law_ 1263 = .ok (.iaload, 1) := by decide +kernel
theorem dL_law__1264 : decode cL_law_ 1264 = .ok (.ifCond .eq 7, 3) := by decide +kernel
theorem dL_law__1267 : decode cL_law_ 1267 = .ok (.iconst 1, 1) := by decide +kernel
theorem dL_law__1268 : decode cL_law_ 1268 = .ok (.goto 4, 3) := by decide +kernel
theorem dL_law__1271 : decode cL_law_ 1271 = .ok (.iconst 0, 1) := by decide +kernel
theorem dL_law__1272 : decode cL_law_ 1272 = .ok (.aload_n 3, 1) := by decide +kernel
theorem dL_law__1273 : decode cL_law_ 1273 = .ok (.invokestatic 201, 3) := by decide +kernel
theorem dL_law__1276 : decode cL_law_ 1276 = .ok (.istore 5, 2) := by decide +kernel
theorem dL_law__1278 : decode cL_law_ 1278 = .ok (.aload_n 2, 1) := by decide +kernel
theorem dL_law__1279 : decode cL_law_ 1279 = .ok (.aload_n 0, 1) := by decide +kernel
theorem dL_law__1280 : decode cL_law_ 1280 = .ok (.iload 4, 2) := by decide +kernel
theorem dL_law__1282 : decode cL_law_ 1282 = .ok (.iconst 1, 1) := by decide +kernel
theorem dL_law__1283 : decode cL_law_ 1283 = .ok (.iadd, 1) := by decide +kernel
theorem dL_law__1284 : decode cL_law_ 1284 = .ok (.iaload, 1) := by decide +kernel
theorem dL_law__1285 : decode cL_law_ 1285 = .ok (.aload_n 0, 1) := by decide +kernel
theorem dL_law__1286 : decode cL_law_ 1286 = .ok (.iload 4, 2) := by decide +kernel
theorem dL_law__1288 : decode cL_law_ 1288 = .ok (.iconst 2, 1) := by decide +kernel
theorem dL_law__1289 : decode cL_law_ 1289 = .ok (.iadd, 1) := by decide +kernel
theorem dL_law__1290 : decode cL_law_ 1290 = .ok (.iaload, 1) := by decide +kernel
theorem dL_law__1291 : decode cL_law_ 1291 = .ok (.ifCond .eq 7, 3) := by decide +kernel
theorem dL_law__1294 : decode cL_law_ 1294 = .ok (.iconst 1, 1) := by decide +kernel
theorem dL_law__1295 : decode cL_law_ 1295 = .ok (.goto 4, 3) := by decide +kernel
theorem dL_law__1298 : decode cL_law_ 1298 = .ok (.iconst 0, 1) := by decide +kernel
theorem dL_law__1299 : decode cL_law_ 1299 = .ok (.invokevirtual 203, 3) := by decide +kernel
theorem dL_law__1302 : decode cL_law_ 1302 = .ok (.istore 6, 2) := by decide +kernel
theorem dL_law__1304 : decode cL_law_ 1304 = .ok (.aload_n 2, 1) := by decide +kernel
theorem dL_law__1305 : decode cL_law_ 1305 = .ok (.invokevirtual 146, 3) := by decide +kernel
theorem dL_law__1308 : decode cL_law_ 1308 = .ok (.iload 5, 2) := by decide +kernel
theorem dL_law__1310 : decode cL_law_ 1310 = .ok (.if_icmp .eq 5, 3) := by decide +kernel
theorem dL_law__1313 : decode cL_law_ 1313 = .ok (.iconst 0, 1) := by decide +kernel
theorem dL_law__1314 : decode cL_law_ 1314 = .ok (.ireturn, 1) := by decide +kernel
theorem dL_law__1315 : decode cL_law_ 1315 = .ok (.iload 5, 2) := by decide +kernel
theorem dL_law__1317 : decode cL_law_ 1317 = .ok (.ifCond .ne 15, 3) := by decide +kernel
theorem dL_law__1320 : decode cL_law_ 1320 = .ok (.aload_n 3, 1) := by decide +kernel
theorem dL_law__1321 : decode cL_law_ 1321 = .ok (.iconst 0, 1) := by decide +kernel
theorem dL_law__1322 : decode cL_law_ 1322 = .ok (.laload, 1) := by decide +kernel
theorem dL_law__1323 : decode cL_law_ 1323 = .ok (.iload 6, 2) := by decide +kernel
theorem dL_law__1325 : decode cL_law_ 1325 = .ok (.i2l, 1) := by decide +kernel
theorem dL_law__1326 : decode cL_law_ 1326 = .ok (.lcmp, 1) := by decide +kernel
theorem dL_law__1327 : decode cL_law_ 1327 = .ok (.ifCond .eq 5, 3) := by decide +kernel
theorem dL_law__1330 : decode cL_law_ 1330 = .ok (.iconst 0, 1) := by decide +kernel
theorem dL_law__1331 : decode cL_law_ 1331 = .ok (.ireturn, 1) := by decide +kernel
theorem dL_law__1332 : decode cL_law_ 1332 = .ok (.goto 1406, 3) := by decide +kernel
theorem dL_law__1335 : decode cL_law_ 1335 = .ok (.aload_n 1, 1) := by decide +kernel
theorem dL_law__1336 : decode cL_law_ 1336 = .ok (.aload_n 0, 1) := by decide +kernel
theorem dL_law__1337 : decode cL_law_ 1337 = .ok (.iload 4, 2) := by decide +kernel
theorem dL_law__1339 : decode cL_law_ 1339 = .ok (.iconst 1, 1) := by decide +kernel
theorem dL_law__1340 : decode cL_law_ 1340 = .ok (.iadd, 1) := by decide +kernel
theorem dL_law__1341 : decode cL_law_ 1341 = .ok (.iaload, 1) := by decide +kernel
theorem dL_law__1342 : decode cL_law_ 1342 = .ok (.aload_n 0, 1) := by decide +kernel
theorem dL_law__1343 : decode cL_law_ 1343 = .ok (.iload 4, 2) := by decide +kernel
theorem dL_law__1345 : decode cL_law_ 1345 = .ok (.iconst 2, 1) := by decide +kernel
theorem dL_law__1346 : decode cL_law_ 1346 = .ok (.iadd, 1) := by decide +kernel
theorem dL_law__1347 : decode cL_law_ 1347 = .ok (.iaload, 1) := by decide +kernel
theorem dL_law__1348 : decode cL_law_ 1348 = .ok (.aload_n 3, 1) := by decide +kernel
theorem dL_law__1349 : decode cL_law_ 1349 = .ok (.invokestatic 204, 3) := by decide +kernel
theorem dL_law__1352 : decode cL_law_ 1352 = .ok (.istore 5, 2) := by decide +kernel
theorem dL_law__1354 : decode cL_law_ 1354 = .ok (.aload_n 2, 1) := by decide +kernel
theorem dL_law__1355 : decode cL_law_ 1355 = .ok (.aload_n 0, 1) := by decide +kernel
theorem dL_law__1356 : decode cL_law_ 1356 = .ok (.iload 4, 2) := by decide +kernel
theorem dL_law__1358 : decode cL_law_ 1358 = .ok (.iconst 1, 1) := by decide +kernel
theorem dL_law__1359 : decode cL_law_ 1359 = .ok (.iadd, 1) := by decide +kernel
theorem dL_law__1360 : decode cL_law_ 1360 = .ok (.iaload, 1) := by decide +kernel
theorem dL_law__1361 : decode cL_law_ 1361 = .ok (.aload_n 0, 1) := by decide +kernel
theorem dL_law__1362 : decode cL_law_ 1362 = .ok (.iload 4, 2) := by decide +kernel
theorem dL_law__1364 : decode cL_law_ 1364 = .ok (.iconst 2, 1) := by decide +kernel
theorem dL_law__1365 : decode cL_law_ 1365 = .ok (.iadd, 1) := by decide +kernel
theorem dL_law__1366 : decode cL_law_ 1366 = .ok (.iaload, 1) := by decide +kernel
theorem dL_law__1367 : decode cL_law_ 1367 = .ok (.invokevirtual 206, 3) := by decide +kernel
theorem dL_law__1370 : decode cL_law_ 1370 = .ok (.istore 6, 2) := by decide +kernel
theorem dL_law__1372 : decode cL_law_ 1372 = .ok (.aload_n 2, 1) := by decide +kernel
theorem dL_law__1373 : decode cL_law_ 1373 = .ok (.invokevirtual 146, 3) := by decide +kernel
theorem dL_law__1376 : decode cL_law_ 1376 = .ok (.iload 5, 2) := by decide +kernel
theorem dL_law__1378 : decode cL_law_ 1378 = .ok (.if_icmp .eq 5, 3) := by decide +kernel
theorem dL_law__1381 : decode cL_law_ 1381 = .ok (.iconst 0, 1) := by decide +kernel
theorem dL_law__1382 : decode cL_law_ 1382 = .ok (.ireturn, 1) := by decide +kernel
theorem dL_law__1383 : decode cL_law_ 1383 = .ok (.iload 5, 2) := by decide +kernel
theorem dL_law__1385 : decode cL_law_ 1385 = .ok (.ifCond .ne 15, 3) := by decide +kernel
theorem dL_law__1388 : decode cL_law_ 1388 = .ok (.aload_n 3, 1) := by decide +kernel
theorem dL_law__1389 : decode cL_law_ 1389 = .ok (.iconst 0, 1) := by decide +kernel
theorem dL_law__1390 : decode cL_law_ 1390 = .ok (.laload, 1) := by decide +kernel
theorem dL_law__1391 : decode cL_law_ 1391 = .ok (.iload 6, 2) := by decide +kernel
theorem dL_law__1393 : decode cL_law_ 1393 = .ok (.i2l, 1) := by decide +kernel
theorem dL_law__1394 : decode cL_law_ 1394 = .ok (.lcmp, 1) := by decide +kernel
theorem dL_law__1395 : decode cL_law_ 1395 = .ok (.ifCond .eq 5, 3) := by decide +kernel
theorem dL_law__1398 : decode cL_law_ 1398 = .ok (.iconst 0, 1) := by decide +kernel
theorem dL_law__1399 : decode cL_law_ 1399 = .ok (.ireturn, 1) := by decide +kernel
theorem dL_law__1400 : decode cL_law_ 1400 = .ok (.goto 1338, 3) := by decide +kernel
theorem dL_law__1403 : decode cL_law_ 1403 = .ok (.aload_n 1, 1) := by decide +kernel
theorem dL_law__1404 : decode cL_law_ 1404 = .ok (.aload_n 0, 1) := by decide +kernel
theorem dL_law__1405 : decode cL_law_ 1405 = .ok (.iload 4, 2) := by decide +kernel
theorem dL_law__1407 : decode cL_law_ 1407 = .ok (.iconst 1, 1) := by decide +kernel
theorem dL_law__1408 : decode cL_law_ 1408 = .ok (.iadd, 1) := by decide +kernel
theorem dL_law__1409 : decode cL_law_ 1409 = .ok (.iaload, 1) := by decide +kernel
theorem dL_law__1410 : decode cL_law_ 1410 = .ok (.aload_n 3, 1) := by decide +kernel
theorem dL_law__1411 : decode cL_law_ 1411 = .ok (.invokestatic 207, 3) := by decide +kernel
theorem dL_law__1414 : decode cL_law_ 1414 = .ok (.istore 5, 2) := by decide +kernel
theorem dL_law__1416 : decode cL_law_ 1416 = .ok (.aload_n 2, 1) := by decide +kernel
theorem dL_law__1417 : decode cL_law_ 1417 = .ok (.aload_n 0, 1) := by decide +kernel
theorem dL_law__1418 : decode cL_law_ 1418 = .ok (.iload 4, 2) := by decide +kernel
theorem dL_law__1420 : decode cL_law_ 1420 = .ok (.iconst 1, 1) := by decide +kernel
theorem dL_law__1421 : decode cL_law_ 1421 = .ok (.iadd, 1) := by decide +kernel
theorem dL_law__1422 : decode cL_law_ 1422 = .ok (.iaload, 1) := by decide +kernel
theorem dL_law__1423 : decode cL_law_ 1423 = .ok (.invokevirtual 209, 3) := by decide +kernel
theorem dL_law__1426 : decode cL_law_ 1426 = .ok (.istore 6, 2) := by decide +kernel
theorem dL_law__1428 : decode cL_law_ 1428 = .ok (.aload_n 2, 1) := by decide +kernel
theorem dL_law__1429 : decode cL_law_ 1429 = .ok (.invokevirtual 146, 3) := by decide +kernel
theorem dL_law__1432 : decode cL_law_ 1432 = .ok (.iload 5, 2) := by decide +kernel
theorem dL_law__1434 : decode cL_law_ 1434 = .ok (.if_icmp .eq 5, 3) := by decide +kernel
theorem dL_law__1437 : decode cL_law_ 1437 = .ok (.iconst 0, 1) := by decide +kernel
theorem dL_law__1438 : decode cL_law_ 1438 = .ok (.ireturn, 1) := by decide +kernel
theorem dL_law__1439 : decode cL_law_ 1439 = .ok (.iload 5, 2) := by decide +kernel
theorem dL_law__1441 : decode cL_law_ 1441 = .ok (.ifCond .ne 15, 3) := by decide +kernel
theorem dL_law__1444 : decode cL_law_ 1444 = .ok (.aload_n 3, 1) := by decide +kernel
theorem dL_law__1445 : decode cL_law_ 1445 = .ok (.iconst 0, 1) := by decide +kernel
theorem dL_law__1446 : decode cL_law_ 1446 = .ok (.laload, 1) := by decide +kernel
theorem dL_law__1447 : decode cL_law_ 1447 = .ok (.iload 6, 2) := by decide +kernel
theorem dL_law__1449 : decode cL_law_ 1449 = .ok (.i2l, 1) := by decide +kernel
theorem dL_law__1450 : decode cL_law_ 1450 = .ok (.lcmp, 1) := by decide +kernel
