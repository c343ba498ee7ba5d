theorem dL_law__0 : decode cL_law_ 0 = .ok (.new 8, 3) := by decide +kernel
theorem dL_law__3 : decode cL_law_ 3 = .ok (.dup, 1) := by decide +kernel
theorem dL_law__4 : decode cL_law_ 4 = .ok (.invokespecial 126, 3) := by decide +kernel
theorem dL_law__7 : decode cL_law_ 7 = .ok (.astore_n 1, 1) := by decide +kernel
theorem dL_law__8 : decode cL_law_ 8 = .ok (.new 127, 3) := by decide +kernel
theorem dL_law__11 : decode cL_law_ 11 = .ok (.dup, 1) := by decide +kernel
theorem dL_law__12 : decode cL_law_ 12 = .ok (.invokespecial 129, 3) := by decide +kernel
theorem dL_law__15 : decode cL_law_ 15 = .ok (.astore_n 2, 1) := by decide +kernel
theorem dL_law__16 : decode cL_law_ 16 = .ok (.iconst 1, 1) := by decide +kernel
theorem dL_law__17 : decode cL_law_ 17 = .ok (.newarray .long, 2) := by decide +kernel
theorem dL_law__19 : decode cL_law_ 19 = .ok (.astore_n 3, 1) := by decide +kernel
theorem dL_law__20 : decode cL_law_ 20 = .ok (.iconst 0, 1) := by decide +kernel
theorem dL_law__21 : decode cL_law_ 21 = .ok (.istore 4, 2) := by decide +kernel
theorem dL_law__23 : decode cL_law_ 23 = .ok (.iload 4, 2) := by decide +kernel
theorem dL_law__25 : decode cL_law_ 25 = .ok (.aload_n 0, 1) := by decide +kernel
theorem dL_law__26 : decode cL_law_ 26 = .ok (.arraylength, 1) := by decide +kernel
theorem dL_law__27 : decode cL_law_ 27 = .ok (.bipush 6, 2) := by decide +kernel
theorem dL_law__29 : decode cL_law_ 29 = .ok (.isub, 1) := by decide +kernel
theorem dL_law__30 : decode cL_law_ 30 = .ok (.if_icmp .gt 1828, 3) := by decide +kernel
theorem dL_law__33 : decode cL_law_ 33 = .ok (.aload_n 0, 1) := by decide +kernel
theorem dL_law__34 : decode cL_law_ 34 = .ok (.iload 4, 2) := by decide +kernel
theorem dL_law__36 : decode cL_law_ 36 = .ok (.iaload, 1) := by decide +kernel
theorem dL_law__37 : decode cL_law_ 37 = .ok (.bipush 63, 2) := by decide +kernel
theorem dL_law__39 : decode cL_law_ 39 = .ok (.iand, 1) := by decide +kernel
theorem dL_law__40 : decode cL_law_ 40 = .ok (.tableswitch 1812 0 49 #[216, 289, 314, 330, 346, 359, 399, 467, 507, 520, 548, 600, 625, 653, 693, 733, 789, 817, 857, 913, 953, 981, 1021, 1049, 1062, 1075, 1131, 1159, 1200, 1228, 1256, 1300, 1316, 1344, 1384, 1397, 1410, 1450, 1463, 1476, 1504, 1517, 1573, 1629, 1685, 1725, 1750, 1763, 1774, 1787], 216) := by decide +kernel
theorem dL_law__256 : decode cL_law_ 256 = .ok (.aload_n 1, 1) := by decide +kernel
theorem dL_law__257 : decode cL_law_ 257 = .ok (.aload_n 0, 1) := by decide +kernel
theorem dL_law__258 : decode cL_law_ 258 = .ok (.iload 4, 2) := by decide +kernel
theorem dL_law__260 : decode cL_law_ 260 = .ok (.iconst 1, 1) := by decide +kernel
theorem dL_law__261 : decode cL_law_ 261 = .ok (.iadd, 1) := by decide +kernel
theorem dL_law__262 : decode cL_law_ 262 = .ok (.iaload, 1) := by decide +kernel
theorem dL_law__263 : decode cL_law_ 263 = .ok (.aload_n 0, 1) := by decide +kernel
theorem dL_law__264 : decode cL_law_ 264 = .ok (.iload 4, 2) := by decide +kernel
theorem dL_law__266 : decode cL_law_ 266 = .ok (.iconst 2, 1) := by decide +kernel
theorem dL_law__267 : decode cL_law_ 267 = .ok (.iadd, 1) := by decide +kernel
theorem dL_law__268 : decode cL_law_ 268 = .ok (.iaload, 1) := by decide +kernel
theorem dL_law__269 : decode cL_law_ 269 = .ok (.aload_n 0, 1) := by decide +kernel
theorem dL_law__270 : decode cL_law_ 270 = .ok (.iload 4, 2) := by decide +kernel
theorem dL_law__272 : decode cL_law_ 272 = .ok (.iconst 3, 1) := by decide +kernel
theorem dL_law__273 : decode cL_law_ 273 = .ok (.iadd, 1) := by decide +kernel
theorem dL_law__274 : decode cL_law_ 274 = .ok (.iaload, 1) := by decide +kernel
theorem dL_law__275 : decode cL_law_ 275 = .ok (.aload_n 0, 1) := by decide +kernel
theorem dL_law__276 : decode cL_law_ 276 = .ok (.iload 4, 2) := by decide +kernel
theorem dL_law__278 : decode cL_law_ 278 = .ok (.iconst 4, 1) := by decide +kernel
theorem dL_law__279 : decode cL_law_ 279 = .ok (.iadd, 1) := by decide +kernel
theorem dL_law__280 : decode cL_law_ 280 = .ok (.iaload, 1) := by decide +kernel
theorem dL_law__281 : decode cL_law_ 281 = .ok (.aload_n 0, 1) := by decide +kernel
theorem dL_law__282 : decode cL_law_ 282 = .ok (.iload 4, 2) := by decide +kernel
theorem dL_law__284 : decode cL_law_ 284 = .ok (.iconst 5, 1) := by decide +kernel
theorem dL_law__285 : decode cL_law_ 285 = .ok (.iadd, 1) := by decide +kernel
theorem dL_law__286 : decode cL_law_ 286 = .ok (.iaload, 1) := by decide +kernel
theorem dL_law__287 : decode cL_law_ 287 = .ok (.invokevirtual 130, 3) := by decide +kernel
theorem dL_law__290 : decode cL_law_ 290 = .ok (.pop, 1) := by decide +kernel
theorem dL_law__291 : decode cL_law_ 291 = .ok (.aload_n 2, 1) := by decide +kernel
theorem dL_law__292 : decode cL_law_ 292 = .ok (.aload_n 0, 1) := by decide +kernel
theorem dL_law__293 : decode cL_law_ 293 = .ok (.iload 4, 2) := by decide +kernel
theorem dL_law__295 : decode cL_law_ 295 = .ok (.iconst 1, 1) := by decide +kernel
theorem dL_law__296 : decode cL_law_ 296 = .ok (.iadd, 1) := by decide +kernel
theorem dL_law__297 : decode cL_law_ 297 = .ok (.iaload, 1) := by decide +kernel
theorem dL_law__298 : decode cL_law_ 298 = .ok (.aload_n 0, 1) := by decide +kernel
theorem dL_law__299 : decode cL_law_ 299 = .ok (.iload 4, 2) := by decide +kernel
theorem dL_law__301 : decode cL_law_ 301 = .ok (.iconst 2, 1) := by decide +kernel
theorem dL_law__302 : decode cL_law_ 302 = .ok (.iadd, 1) := by decide +kernel
theorem dL_law__303 : decode cL_law_ 303 = .ok (.iaload, 1) := by decide +kernel
theorem dL_law__304 : decode cL_law_ 304 = .ok (.aload_n 0, 1) := by decide +kernel
theorem dL_law__305 : decode cL_law_ 305 = .ok (.iload 4, 2) := by decide +kernel
theorem dL_law__307 : decode cL_law_ 307 = .ok (.iconst 3, 1) := by decide +kernel
theorem dL_law__308 : decode cL_law_ 308 = .ok (.iadd, 1) := by decide +kernel
theorem dL_law__309 : decode cL_law_ 309 = .ok (.iaload, 1) := by decide +kernel
theorem dL_law__310 : decode cL_law_ 310 = .ok (.aload_n 0, 1) := by decide +kernel
theorem dL_law__311 : decode cL_law_ 311 = .ok (.iload 4, 2) := by decide +kernel
theorem dL_law__313 : decode cL_law_ 313 = .ok (.iconst 4, 1) := by decide +kernel
theorem dL_law__314 : decode cL_law_ 314 = .ok (.iadd, 1) := by decide +kernel
theorem dL_law__315 : decode cL_law_ 315 = .ok (.iaload, 1) := by decide +kernel
theorem dL_law__316 : decode cL_law_ 316 = .ok (.aload_n 0, 1) := by decide +kernel
theorem dL_law__317 : decode cL_law_ 317 = .ok (.iload 4, 2) := by decide +kernel
theorem dL_law__319 : decode cL_law_ 319 = .ok (.iconst 5, 1) := by decide +kernel
theorem dL_law__320 : decode cL_law_ 320 = .ok (.iadd, 1) := by decide +kernel
theorem dL_law__321 : decode cL_law_ 321 = .ok (.iaload, 1) := by decide +kernel
theorem dL_law__322 : decode cL_law_ 322 = .ok (.invokevirtual 134, 3) := by decide +kernel
theorem dL_law__325 : decode cL_law_ 325 = .ok (.pop, 1) := by decide +kernel
theorem dL_law__326 : decode cL_law_ 326 = .ok (.goto 1526, 3) := by decide +kernel
theorem dL_law__329 : decode cL_law_ 329 = .ok (.aload_n 1, 1) := by decide +kernel
theorem dL_law__330 : decode cL_law_ 330 = .ok (.aload_n 0, 1) := by decide +kernel
theorem dL_law__331 : decode cL_law_ 331 = .ok (.iload 4, 2) := by decide +kernel
theorem dL_law__333 : decode cL_law_ 333 = .ok (.iconst 1, 1) := by decide +kernel
theorem dL_law__334 : decode cL_law_ 334 = .ok (.iadd, 1) := by decide +kernel
theorem dL_law__335 : decode cL_law_ 335 = .ok (.iaload, 1) := by decide +kernel
theorem dL_law__336 : decode cL_law_ 336 = .ok (.invokevirtual 135, 3) := by decide +kernel
theorem dL_law__339 : decode cL_law_ 339 = .ok (.pop, 1) := by decide +kernel
theorem dL_law__340 : decode cL_law_ 340 = .ok (.aload_n 2, 1) := by decide +kernel
theorem dL_law__341 : decode cL_law_ 341 = .ok (.aload_n 0, 1) := by decide +kernel
theorem dL_law__342 : decode cL_law_ 342 = .ok (.iload 4, 2) := by decide +kernel
theorem dL_law__344 : decode cL_law_ 344 = .ok (.iconst 1, 1) := by decide +kernel
theorem dL_law__345 : decode cL_law_ 345 = .ok (.iadd, 1) := by decide +kernel
theorem dL_law__346 : decode cL_law_ 346 = .ok (.iaload, 1) := by decide +kernel
theorem dL_law__347 : decode cL_law_ 347 = .ok (.invokevirtual 139, 3) := by decide +kernel
theorem dL_law__350 : decode cL_law_ 350 = .ok (.pop, 1) := by decide +kernel
theorem dL_law__351 : decode cL_law_ 351 = .ok (.goto 1501, 3) := by decide +kernel
theorem dL_law__354 : decode cL_law_ 354 = .ok (.aload_n 1, 1) := by decide +kernel
theorem dL_law__355 : decode cL_law_ 355 = .ok (.aload_n 3, 1) := by decide +kernel
theorem dL_law__356 : decode cL_law_ 356 = .ok (.invokestatic 140, 3) := by decide +kernel
theorem dL_law__359 : decode cL_law_ 359 = .ok (.istore 5, 2) := by decide +kernel
theorem dL_law__361 : decode cL_law_ 361 = .ok (.aload_n 2, 1) := by decide +kernel
theorem dL_law__362 : decode cL_law_ 362 = .ok (.invokevirtual 145, 3) := by decide +kernel
theorem dL_law__365 : decode cL_law_ 365 = .ok (.istore 6, 2) := by decide +kernel
theorem dL_law__367 : decode cL_law_ 367 = .ok (.goto 1485, 3) := by decide +kernel
theorem dL_law__370 : decode cL_law_ 370 = .ok (.aload_n 1, 1) := by decide +kernel
theorem dL_law__371 : decode cL_law_ 371 = .ok (.aload_n 3, 1) := by decide +kernel
theorem dL_law__372 : decode cL_law_ 372 = .ok (.invokestatic 146, 3) := by decide +kernel
theorem dL_law__375 : decode cL_law_ 375 = .ok (.istore 5, 2) := by decide +kernel
theorem dL_law__377 : decode cL_law_ 377 = .ok (.aload_n 2, 1) := by decide +kernel
theorem dL_law__378 : decode cL_law_ 378 = .ok (.invokevirtual 148, 3) := by decide +kernel
theorem dL_law__381 : decode cL_law_ 381 = .ok (.istore 6, 2) := by decide +kernel
theorem dL_law__383 : decode cL_law_ 383 = .ok (.goto 1469, 3) := by decide +kernel
theorem dL_law__386 : decode cL_law_ 386 = .ok (.aload_n 1, 1) := by decide +kernel
theorem dL_law__387 : decode cL_law_ 387 = .ok (.invokevirtual 149, 3) := by decide +kernel
theorem dL_law__390 : decode cL_law_ 390 = .ok (.pop, 1) := by decide +kernel
theorem dL_law__391 : decode cL_law_ 391 = .ok (.aload_n 2, 1) := by decide +kernel
theorem dL_law__392 : decode cL_law_ 392 = .ok (.invokevirtual 152, 3) := by decide +kernel
theorem dL_law__395 : decode cL_law_ 395 = .ok (.pop, 1) := by decide +kernel
theorem dL_law__396 : decode cL_law_ 396 = .ok (.goto 1456, 3) := by decide +kernel
theorem dL_law__399 : decode cL_law_ 399 = .ok (.aload_n 1, 1) := by decide +kernel
theorem dL_law__400 : decode cL_law_ 400 = .ok (.aload_n 0, 1) := by decide +kernel
theorem dL_law__401 : decode cL_law_ 401 = .ok (.iload 4, 2) := by decide +kernel
theorem dL_law__403 : decode cL_law_ 403 = .ok (.iconst 1, 1) := by decide +kernel
theorem dL_law__404 : decode cL_law_ 404 = .ok (.iadd, 1) := by decide +kernel
theorem dL_law__405 : decode cL_law_ 405 = .ok (.iaload, 1) := by decide +kernel
theorem dL_law__406 : decode cL_law_ 406 = .ok (.aload_n 0, 1) := by decide +kernel
theorem dL_law__407 : decode cL_law_ 407 = .ok (.iload 4, 2) := by decide +kernel
theorem dL_law__409 : decode cL_law_ 409 = .ok (.iconst 2, 1) := by decide +kernel
theorem dL_law__410 : decode cL_law_ 410 = .ok (.iadd, 1) := by decide +kernel
theorem dL_law__411 : decode cL_law_ 411 = .ok (.iaload, 1) := by decide +kernel
theorem dL_law__412 : decode cL_law_ 412 = .ok (.aload_n 3, 1) := by decide +kernel
theorem dL_law__413 : decode cL_law_ 413 = .ok (.invokestatic 153, 3) := by decide +kernel
theorem dL_law__416 : decode cL_law_ 416 = .ok (.istore 5, 2) := by decide +kernel
theorem dL_law__418 : decode cL_law_ 418 = .ok (.aload_n 2, 1) := by decide +kernel
theorem dL_law__419 : decode cL_law_ 419 = .ok (.aload_n 0, 1) := by decide +kernel
theorem dL_law__420 : decode cL_law_ 420 = .ok (.iload 4, 2) := by decide +kernel
theorem dL_law__422 : decode cL_law_ 422 = .ok (.iconst 1, 1) := by decide +kernel
theorem dL_law__423 : decode cL_law_ 423 = .ok (.iadd, 1) := by decide +kernel
theorem dL_law__424 : decode cL_law_ 424 = .ok (.iaload, 1) := by decide +kernel
theorem dL_law__425 : decode cL_law_ 425 = .ok (.aload_n 0, 1) := by decide +kernel
theorem dL_law__426 : decode cL_law_ 426 = .ok (.iload 4, 2) := by decide +kernel
theorem dL_law__428 : decode cL_law_ 428 = .ok (.iconst 2, 1) := by decide +kernel
theorem dL_law__429 : decode cL_law_ 429 = .ok (.iadd, 1) := by decide +kernel
theorem dL_law__430 : decode cL_law_ 430 = .ok (.iaload, 1) := by decide +kernel
theorem dL_law__431 : decode cL_law_ 431 = .ok (.invokevirtual 156, 3) := by decide +kernel
theorem dL_law__434 : decode cL_law_ 434 = .ok (.istore 6, 2) := by decide +kernel
theorem dL_law__436 : decode cL_law_ 436 = .ok (.goto 1416, 3) := by decide +kernel
theorem dL_law__439 : decode cL_law_ 439 = .ok (.aload_n 1, 1) := by decide +kernel
theorem dL_law__440 : decode cL_law_ 440 = .ok (.aload_n 0, 1) := by decide +kernel
theorem dL_law__441 : decode cL_law_ 441 = .ok (.iload 4, 2) := by decide +kernel
theorem dL_law__443 : decode cL_law_ 443 = .ok (.iconst 1, 1) := by decide +kernel
theorem dL_law__444 : decode cL_law_ 444 = .ok (.iadd, 1) := by decide +kernel
theorem dL_law__445 : decode cL_law_ 445 = .ok (.iaload, 1) := by decide +kernel
theorem dL_law__446 : decode cL_law_ 446 = .ok (.aload_n 0, 1) := by decide +kernel
theorem dL_law__447 : decode cL_law_ 447 = .ok (.iload 4, 2) := by decide +kernel
theorem dL_law__449 : decode cL_law_ 449 = .ok (.iconst 2, 1) := by decide +kernel
theorem dL_law__450 : decode cL_law_ 450 = .ok (.iadd, 1) := by decide +kernel
theorem dL_law__451 : decode cL_law_ 451 = .ok (.iaload, 1) := by decide +kernel
theorem dL_law__452 : decode cL_law_ 452 = .ok (.aload_n 3, 1) := by decide +kernel
theorem dL_law__453 : decode cL_law_ 453 = .ok (.invokestatic 157, 3) := by decide +kernel
theorem dL_law__456 : decode cL_law_ 456 = .ok (.istore 5, 2) := by decide +kernel
theorem dL_law__458 : decode cL_law_ 458 = .ok (.aload_n 2, 1) := by decide +kernel
theorem dL_law__459 : decode cL_law_ 459 = .ok (.aload_n 0, 1) := by decide +kernel
theorem dL_law__460 : decode cL_law_ 460 = .ok (.iload 4, 2) := by decide +kernel
theorem dL_law__462 : decode cL_law_ 462 = .ok (.iconst 1, 1) := by decide +kernel
theorem dL_law__463 : decode cL_law_ 463 = .ok (.iadd, 1) := by decide +kernel
theorem dL_law__464 : decode cL_law_ 464 = .ok (.iaload, 1) := by decide +kernel
theorem dL_law__465 : decode cL_law_ 465 = .ok (.aload_n 0, 1) := by decide +kernel
theorem dL_law__466 : decode cL_law_ 466 = .ok (.iload 4, 2) := by decide +kernel
theorem dL_law__468 : decode cL_law_ 468 = .ok (.iconst 2, 1) := by decide +kernel
theorem dL_law__469 : decode cL_law_ 469 = .ok (.iadd, 1) := by decide +kernel
theorem dL_law__470 : decode cL_law_ 470 = .ok (.iaload, 1) := by decide +kernel
theorem dL_law__471 : decode cL_law_ 471 = .ok (.invokevirtual 159, 3) := by decide +kernel
theorem dL_law__474 : decode cL_law_ 474 = .ok (.istore 6, 2) := by decide +kernel
theorem dL_law__476 : decode cL_law_ 476 = .ok (.aload_n 2, 1) := by decide +kernel
theorem dL_law__477 : decode cL_law_ 477 = .ok (.invokevirtual 160, 3) := by decide +kernel
theorem dL_law__480 : decode cL_law_ 480 = .ok (.iload 5, 2) := by decide +kernel
theorem dL_law__482 : decode cL_law_ 482 = .ok (.if_icmp .eq 5, 3) := by decide +kernel
theorem dL_law__485 : decode cL_law_ 485 = .ok (.iconst 0, 1) := by decide +kernel
theorem dL_law__486 : decode cL_law_ 486 = .ok (.ireturn, 1) := by decide +kernel
theorem dL_law__487 : decode cL_law_ 487 = .ok (.iload 5, 2) := by decide +kernel
theorem dL_law__489 : decode cL_law_ 489 = .ok (.ifCond .ne 15, 3) := by decide +kernel
theorem dL_law__492 : decode cL_law_ 492 = .ok (.aload_n 3, 1) := by decide +kernel
theorem dL_law__493 : decode cL_law_ 493 = .ok (.iconst 0, 1) := by decide +kernel
theorem dL_law__494 : decode cL_law_ 494 = .ok (.laload, 1) := by decide +kernel
theorem dL_law__495 : decode cL_law_ 495 = .ok (.iload 6, 2) := by decide +kernel
theorem dL_law__497 : decode cL_law_ 497 = .ok (.i2l, 1) := by decide +kernel
theorem dL_law__498 : decode cL_law_ 498 = .ok (.lcmp, 1) := by decide +kernel
theorem dL_law__499 : decode cL_law_ 499 = .ok (.ifCond .eq 5, 3) := by decide +kernel
theorem dL_law__502 : decode cL_law_ 502 = .ok (.iconst 0, 1) := by decide +kernel
theorem dL_law__503 : decode cL_law_ 503 = .ok (.ireturn, 1) := by decide +kernel
theorem dL_law__504 : decode cL_law_ 504 = .ok (.goto 1348, 3) := by decide +kernel
theorem dL_law__507 : decode cL_law_ 507 = .ok (.aload_n 1, 1) := by decide +kernel
theorem dL_law__508 : decode cL_law_ 508 = .ok (.aload_n 0, 1) := by decide +kernel
theorem dL_law__509 : decode cL_law_ 509 = .ok (.iload 4, 2) := by decide +kernel
theorem dL_law__511 : decode cL_law_ 511 = .ok (.iconst 1, 1) := by decide +kernel
theorem dL_law__512 : decode cL_law_ 512 = .ok (.iadd, 1) := by decide +kernel
theorem dL_law__513 : decode cL_law_ 513 = .ok (.iaload, 1) := by decide +kernel
theorem dL_law__514 : decode cL_law_ 514 = .ok (.aload_n 0, 1) := by decide +kernel
theorem dL_law__515 : decode cL_law_ 515 = .ok (.iload 4, 2) := by decide +kernel
theorem dL_law__517 : decode cL_law_ 517 = .ok (.iconst 2, 1) := by decide +kernel
theorem dL_law__518 : decode cL_law_ 518 = .ok (.iadd, 1) := by decide +kernel
theorem dL_law__519 : decode cL_law_ 519 = .ok (.iaload, 1) := by decide +kernel
theorem dL_law__520 : decode cL_law_ 520 = .ok (.aload_n 3, 1) := by decide +kernel
theorem dL_law__521 : decode cL_law_ 521 = .ok (.invokestatic 163, 3) := by decide +kernel
theorem dL_law__524 : decode cL_law_ 524 = .ok (.istore 5, 2) := by decide +kernel
theorem dL_law__526 : decode cL_law_ 526 = .ok (.aload_n 2, 1) := by decide +kernel
theorem dL_law__527 : decode cL_law_ 527 = .ok (.aload_n 0, 1) := by decide +kernel
theorem dL_law__528 : decode cL_law_ 528 = .ok (.iload 4, 2) := by decide +kernel
theorem dL_law__530 : decode cL_law_ 530 = .ok (.iconst 1, 1) := by decide +kernel
theorem dL_law__531 : decode cL_law_ 531 = .ok (.iadd, 1) := by decide +kernel
theorem dL_law__532 : decode cL_law_ 532 = .ok (.iaload, 1) := by decide +kernel
theorem dL_law__533 : decode cL_law_ 533 = .ok (.aload_n 0, 1) := by decide +kernel
theorem dL_law__534 : decode cL_law_ 534 = .ok (.iload 4, 2) := by decide +kernel
theorem dL_law__536 : decode cL_law_ 536 = .ok (.iconst 2, 1) := by decide +kernel
theorem dL_law__537 : decode cL_law_ 537 = .ok (.iadd, 1) := by decide +kernel
theorem dL_law__538 : decode cL_law_ 538 = .ok (.iaload, 1) := by decide +kernel
theorem dL_law__539 : decode cL_law_ 539 = .ok (.invokevirtual 165, 3) := by decide +kernel
theorem dL_law__542 : decode cL_law_ 542 = .ok (.istore 6, 2) := by decide +kernel
theorem dL_law__544 : decode cL_law_ 544 = .ok (.goto 1308, 3) := by decide +kernel
theorem dL_law__547 : decode cL_law_ 547 = .ok (.aload_n 1, 1) := by decide +kernel
theorem dL_law__548 : decode cL_law_ 548 = .ok (.invokevirtual 166, 3) := by decide +kernel
theorem dL_law__551 : decode cL_law_ 551 = .ok (.pop, 1) := by decide +kernel
theorem dL_law__552 : decode cL_law_ 552 = .ok (.aload_n 2, 1) := by decide +kernel
theorem dL_law__553 : decode cL_law_ 553 = .ok (.invokevirtual 169, 3) := by decide +kernel
theorem dL_law__556 : decode cL_law_ 556 = .ok (.pop, 1) := by decide +kernel
theorem dL_law__557 : decode cL_law_ 557 = .ok (.goto 1295, 3) := by decide +kernel
theorem dL_law__560 : decode cL_law_ 560 = .ok (.aload_n 1, 1) := by decide +kernel
theorem dL_law__561 : decode cL_law_ 561 = .ok (.aload_n 0, 1) := by decide +kernel
theorem dL_law__562 : decode cL_law_ 562 = .ok (.iload 4, 2) := by decide +kernel
theorem dL_law__564 : decode cL_law_ 564 = .ok (.iconst 1, 1) := by decide +kernel
theorem dL_law__565 : decode cL_law_ 565 = .ok (.iadd, 1) := by decide +kernel
theorem dL_law__566 : decode cL_law_ 566 = .ok (.iaload, 1) := by decide +kernel
theorem dL_law__567 : decode cL_law_ 567 = .ok (.aload_n 3, 1) := by decide +kernel
theorem dL_law__568 : decode cL_law_ 568 = .ok (.invokestatic 170, 3) := by decide +kernel
theorem dL_law__571 : decode cL_law_ 571 = .ok (.istore 5, 2) := by decide +kernel
theorem dL_law__573 : decode cL_law_ 573 = .ok (.aload_n 2, 1) := by decide +kernel
theorem dL_law__574 : decode cL_law_ 574 = .ok (.aload_n 0, 1) := by decide +kernel
theorem dL_law__575 : decode cL_law_ 575 = .ok (.iload 4, 2) := by decide +kernel
theorem dL_law__577 : decode cL_law_ 577 = .ok (.iconst 1, 1) := by decide +kernel
theorem dL_law__578 : decode cL_law_ 578 = .ok (.iadd, 1) := by decide +kernel
theorem dL_law__579 : decode cL_law_ 579 = .ok (.iaload, 1) := by decide +kernel
theorem dL_law__580 : decode cL_law_ 580 = .ok (.invokevirtual 173, 3) := by decide +kernel
theorem dL_law__583 : decode cL_law_ 583 = .ok (.istore 6, 2) := by decide +kernel
theorem dL_law__585 : decode cL_law_ 585 = .ok (.goto 1267, 3) := by decide +kernel
theorem dL_law__588 : decode cL_law_ 588 = .ok (.aload_n 1, 1) := by decide +kernel
theorem dL_law__589 : decode cL_law_ 589 = .ok (.aload_n 0, 1) := by decide +kernel
theorem dL_law__590 : decode cL_law_ 590 = .ok (.iload 4, 2) := by decide +kernel
theorem dL_law__592 : decode cL_law_ 592 = .ok (.iconst 1, 1) := by decide +kernel
theorem dL_law__593 : decode cL_law_ 593 = .ok (.iadd, 1) := by decide +kernel
theorem dL_law__594 : decode cL_law_ 594 = .ok (.iaload, 1) := by decide +kernel
theorem dL_law__595 : decode cL_law_ 595 = .ok (.aload_n 0, 1) := by decide +kernel
theorem dL_law__596 : decode cL_law_ 596 = .ok (.iload 4, 2) := by decide +kernel
theorem dL_law__598 : decode cL_law_ 598 = .ok (.iconst 2, 1) := by decide +kernel
theorem dL_law__599 : decode cL_law_ 599 = .ok (.iadd, 1) := by decide +kernel
theorem dL_law__600 : decode cL_law_ 600 = .ok (.iaload, 1) := by decide +kernel
theorem dL_law__601 : decode cL_law_ 601 = .ok (.aload_n 0, 1) := by decide +kernel
theorem dL_law__602 : decode cL_law_ 602 = .ok (.iload 4, 2) := by decide +kernel
theorem dL_law__604 : decode cL_law_ 604 = .ok (.iconst 3, 1) := by decide +kernel
theorem dL_law__605 : decode cL_law_ 605 = .ok (.iadd, 1) := by decide +kernel
theorem dL_law__606 : decode cL_law_ 606 = .ok (.iaload, 1) := by decide +kernel
theorem dL_law__607 : decode cL_law_ 607 = .ok (.aload_n 3, 1) := by decide +kernel
theorem dL_law__608 : decode cL_law_ 608 = .ok (.invokestatic 174, 3) := by decide +kernel
theorem dL_law__611 : decode cL_law_ 611 = .ok (.istore 5, 2) := by decide +kernel
theorem dL_law__613 : decode cL_law_ 613 = .ok (.aload_n 2, 1) := by decide +kernel
theorem dL_law__614 : decode cL_law_ 614 = .ok (.aload_n 0, 1) := by decide +kernel
theorem dL_law__615 : decode cL_law_ 615 = .ok (.iload 4, 2) := by decide +kernel
theorem dL_law__617 : decode cL_law_ 617 = .ok (.iconst 1, 1) := by decide +kernel
theorem dL_law__618 : decode cL_law_ 618 = .ok (.iadd, 1) := by decide +kernel
theorem dL_law__619 : decode cL_law_ 619 = .ok (.iaload, 1) := by decide +kernel
theorem dL_law__620 : decode cL_law_ 620 = .ok (.aload_n 0, 1) := by decide +kernel
theorem dL_law__621 : decode cL_law_ 621 = .ok (.iload 4, 2) := by decide +kernel
theorem dL_law__623 : decode cL_law_ 623 = .ok (.iconst 2, 1) := by decide +kernel
theorem dL_law__624 : decode cL_law_ 624 = .ok (.iadd, 1) := by decide +kernel
theorem dL_law__625 : decode cL_law_ 625 = .ok (.iaload, 1) := by decide +kernel
theorem dL_law__626 : decode cL_law_ 626 = .ok (.aload_n 0, 1) := by decide +kernel
theorem dL_law__627 : decode cL_law_ 627 = .ok (.iload 4, 2) := by decide +kernel
theorem dL_law__629 : decode cL_law_ 629 = .ok (.iconst 3, 1) := by decide +kernel
theorem dL_law__630 : decode cL_law_ 630 = .ok (.iadd, 1) := by decide +kernel
theorem dL_law__631 : decode cL_law_ 631 = .ok (.iaload, 1) := by decide +kernel
theorem dL_law__632 : decode cL_law_ 632 = .ok (.invokevirtual 177, 3) := by decide +kernel
theorem dL_law__635 : decode cL_law_ 635 = .ok (.istore 6, 2) := by decide +kernel
theorem dL_law__637 : decode cL_law_ 637 = .ok (.goto 1215, 3) := by decide +kernel
theorem dL_law__640 : decode cL_law_ 640 = .ok (.aload_n 1, 1) := by decide +kernel
theorem dL_law__641 : decode cL_law_ 641 = .ok (.aload_n 0, 1) := by decide +kernel
theorem dL_law__642 : decode cL_law_ 642 = .ok (.iload 4, 2) := by decide +kernel
theorem dL_law__644 : decode cL_law_ 644 = .ok (.iconst 1, 1) := by decide +kernel
theorem dL_law__645 : decode cL_law_ 645 = .ok (.iadd, 1) := by decide +kernel
theorem dL_law__646 : decode cL_law_ 646 = .ok (.iaload, 1) := by decide +kernel
theorem dL_law__647 : decode cL_law_ 647 = .ok (.invokestatic 178, 3) := by decide +kernel
theorem dL_law__650 : decode cL_law_ 650 = .ok (.istore 5, 2) := by decide +kernel
theorem dL_law__652 : decode cL_law_ 652 = .ok (.aload_n 2, 1) := by decide +kernel
theorem dL_law__653 : decode cL_law_ 653 = .ok (.aload_n 0, 1) := by decide +kernel
theorem dL_law__654 : decode cL_law_ 654 = .ok (.iload 4, 2) := by decide +kernel
theorem dL_law__656 : decode cL_law_ 656 = .ok (.iconst 1, 1) := by decide +kernel
theorem dL_law__657 : decode cL_law_ 657 = .ok (.iadd, 1) := by decide +kernel
theorem dL_law__658 : decode cL_law_ 658 = .ok (.iaload, 1) := by decide +kernel
theorem dL_law__659 : decode cL_law_ 659 = .ok (.invokevirtual 181, 3) := by decide +kernel
theorem dL_law__662 : decode cL_law_ 662 = .ok (.goto 1190, 3) := by decide +kernel
theorem dL_law__665 : decode cL_law_ 665 = .ok (.aload_n 1, 1) := by decide +kernel
theorem dL_law__666 : decode cL_law_ 666 = .ok (.aload_n 0, 1) := by decide +kernel
theorem dL_law__667 : decode cL_law_ 667 = .ok (.iload 4, 2) := by decide +kernel
theorem dL_law__669 : decode cL_law_ 669 = .ok (.iconst 1, 1) := by decide +kernel
theorem dL_law__670 : decode cL_law_ 670 = .ok (.iadd, 1) := by decide +kernel
theorem dL_law__671 : decode cL_law_ 671 = .ok (.iaload, 1) := by decide +kernel
theorem dL_law__672 : decode cL_law_ 672 = .ok (.aload_n 3, 1) := by decide +kernel
theorem dL_law__673 : decode cL_law_ 673 = .ok (.invokestatic 182, 3) := by decide +kernel
theorem dL_law__676 : decode cL_law_ 676 = .ok (.istore 5, 2) := by decide +kernel
theorem dL_law__678 : decode cL_law_ 678 = .ok (.aload_n 2, 1) := by decide +kernel
theorem dL_law__679 : decode cL_law_ 679 = .ok (.aload_n 0, 1) := by decide +kernel
theorem dL_law__680 : decode cL_law_ 680 = .ok (.iload 4, 2) := by decide +kernel
theorem dL_law__682 : decode cL_law_ 682 = .ok (.iconst 1, 1) := by decide +kernel
theorem dL_law__683 : decode cL_law_ 683 = .ok (.iadd, 1) := by decide +kernel
theorem dL_law__684 : decode cL_law_ 684 = .ok (.iaload, 1) := by decide +kernel
theorem dL_law__685 : decode cL_law_ 685 = .ok (.invokevirtual 184, 3) := by decide +kernel
theorem dL_law__688 : decode cL_law_ 688 = .ok (.istore 6, 2) := by decide +kernel
theorem dL_law__690 : decode cL_law_ 690 = .ok (.goto 1162, 3) := by decide +kernel
theorem dL_law__693 : decode cL_law_ 693 = .ok (.aload_n 1, 1) := by decide +kernel
theorem dL_law__694 : decode cL_law_ 694 = .ok (.aload_n 0, 1) := by decide +kernel
theorem dL_law__695 : decode cL_law_ 695 = .ok (.iload 4, 2) := by decide +kernel
theorem dL_law__697 : decode cL_law_ 697 = .ok (.iconst 1, 1) := by decide +kernel
theorem dL_law__698 : decode cL_law_ 698 = .ok (.iadd, 1) := by decide +kernel
theorem dL_law__699 : decode cL_law_ 699 = .ok (.iaload, 1) := by decide +kernel
theorem dL_law__700 : decode cL_law_ 700 = .ok (.aload_n 0, 1) := by decide +kernel
theorem dL_law__701 : decode cL_law_ 701 = .ok (.iload 4, 2) := by decide +kernel
theorem dL_law__703 : decode cL_law_ 703 = .ok (.iconst 2, 1) := by decide +kernel
theorem dL_law__704 : decode cL_law_ 704 = .ok (.iadd, 1) := by decide +kernel
theorem dL_law__705 : decode cL_law_ 705 = .ok (.iaload, 1) := by decide +kernel
theorem dL_law__706 : decode cL_law_ 706 = .ok (.aload_n 3, 1) := by decide +kernel
theorem dL_law__707 : decode cL_law_ 707 = .ok (.invokestatic 185, 3) := by decide +kernel
theorem dL_law__710 : decode cL_law_ 710 = .ok (.istore 5, 2) := by decide +kernel
theorem dL_law__712 : decode cL_law_ 712 = .ok (.aload_n 2, 1) := by decide +kernel
theorem dL_law__713 : decode cL_law_ 713 = .ok (.aload_n 0, 1) := by decide +kernel
theorem dL_law__714 : decode cL_law_ 714 = .ok (.iload 4, 2) := by decide +kernel
theorem dL_law__716 : decode cL_law_ 716 = .ok (.iconst 1, 1) := by decide +kernel
theorem dL_law__717 : decode cL_law_ 717 = .ok (.iadd, 1) := by decide +kernel
theorem dL_law__718 : decode cL_law_ 718 = .ok (.iaload, 1) := by decide +kernel
theorem dL_law__719 : decode cL_law_ 719 = .ok (.aload_n 0, 1) := by decide +kernel
theorem dL_law__720 : decode cL_law_ 720 = .ok (.iload 4, 2) := by decide +kernel
theorem dL_law__722 : decode cL_law_ 722 = .ok (.iconst 2, 1) := by decide +kernel
theorem dL_law__723 : decode cL_law_ 723 = .ok (.iadd, 1) := by decide +kernel
theorem dL_law__724 : decode cL_law_ 724 = .ok (.iaload, 1) := by decide +kernel
theorem dL_law__725 : decode cL_law_ 725 = .ok (.invokevirtual 187, 3) := by decide +kernel
theorem dL_law__728 : decode cL_law_ 728 = .ok (.istore 6, 2) := by decide +kernel
theorem dL_law__730 : decode cL_law_ 730 = .ok (.goto 1122, 3) := by decide +kernel
theorem dL_law__733 : decode cL_law_ 733 = .ok (.aload_n 1, 1) := by decide +kernel
theorem dL_law__734 : decode cL_law_ 734 = .ok (.aload_n 0, 1) := by decide +kernel
theorem dL_law__735 : decode cL_law_ 735 = .ok (.iload 4, 2) := by decide +kernel
theorem dL_law__737 : decode cL_law_ 737 = .ok (.iconst 1, 1) := by decide +kernel
theorem dL_law__738 : decode cL_law_ 738 = .ok (.iadd, 1) := by decide +kernel
theorem dL_law__739 : decode cL_law_ 739 = .ok (.iaload, 1) := by decide +kernel
theorem dL_law__740 : decode cL_law_ 740 = .ok (.aload_n 0, 1) := by decide +kernel
theorem dL_law__741 : decode cL_law_ 741 = .ok (.iload 4, 2) := by decide +kernel
theorem dL_law__743 : decode cL_law_ 743 = .ok (.iconst 2, 1) := by decide +kernel
theorem dL_law__744 : decode cL_law_ 744 = .ok (.iadd, 1) := by decide +kernel
theorem dL_law__745 : decode cL_law_ 745 = .ok (.iaload, 1) := by decide +kernel
theorem dL_law__746 : decode cL_law_ 746 = .ok (.aload_n 3, 1) := by decide +kernel
theorem dL_law__747 : decode cL_law_ 747 = .ok (.invokestatic 188, 3) := by decide +kernel
theorem dL_law__750 : decode cL_law_ 750 = .ok (.istore 5, 2) := by decide +kernel
theorem dL_law__752 : decode cL_law_ 752 = .ok (.aload_n 2, 1) := by decide +kernel
theorem dL_law__753 : decode cL_law_ 753 = .ok (.aload_n 0, 1) := by decide +kernel
theorem dL_law__754 : decode cL_law_ 754 = .ok (.iload 4, 2) := by decide +kernel
theorem dL_law__756 : decode cL_law_ 756 = .ok (.iconst 1, 1) := by decide +kernel
theorem dL_law__757 : decode cL_law_ 757 = .ok (.iadd, 1) := by decide +kernel
theorem dL_law__758 : decode cL_law_ 758 = .ok (.iaload, 1) := by decide +kernel
theorem dL_law__759 : decode cL_law_ 759 = .ok (.aload_n 0, 1) := by decide +kernel
theorem dL_law__760 : decode cL_law_ 760 = .ok (.iload 4, 2) := by decide +kernel
theorem dL_law__762 : decode cL_law_ 762 = .ok (.iconst 2, 1) := by decide +kernel
theorem dL_law__763 : decode cL_law_ 763 = .ok (.iadd, 1) := by decide +kernel
theorem dL_law__764 : decode cL_law_ 764 = .ok (.iaload, 1) := by decide +kernel
theorem dL_law__765 : decode cL_law_ 765 = .ok (.invokevirtual 190, 3) := by decide +kernel
theorem dL_law__768 : decode cL_law_ 768 = .ok (.istore 6, 2) := by decide +kernel
theorem dL_law__770 : decode cL_law_ 770 = .ok (.goto 1082, 3) := by decide +kernel
theorem dL_law__773 : decode cL_law_ 773 = .ok (.aload_n 1, 1) := by decide +kernel
theorem dL_law__774 : decode cL_law_ 774 = .ok (.aload_n 0, 1) := by decide +kernel
theorem dL_law__775 : decode cL_law_ 775 = .ok (.iload 4, 2) := by decide +kernel
theorem dL_law__777 : decode cL_law_ 777 = .ok (.iconst 1, 1) := by decide +kernel
theorem dL_law__778 : decode cL_law_ 778 = .ok (.iadd, 1) := by decide +kernel
theorem dL_law__779 : decode cL_law_ 779 = .ok (.iaload, 1) := by decide +kernel
theorem dL_law__780 : decode cL_law_ 780 = .ok (.aload_n 0, 1) := by decide +kernel
theorem dL_law__781 : decode cL_law_ 781 = .ok (.iload 4, 2) := by decide +kernel
theorem dL_law__783 : decode cL_law_ 783 = .ok (.iconst 2, 1) := by decide +kernel
theorem dL_law__784 : decode cL_law_ 784 = .ok (.iadd, 1) := by decide +kernel
theorem dL_law__785 : decode cL_law_ 785 = .ok (.iaload, 1) := by decide +kernel
theorem dL_law__786 : decode cL_law_ 786 = .ok (.ifCond .eq 7, 3) := by decide +kernel
theorem dL_law__789 : decode cL_law_ 789 = .ok (.iconst 1, 1) := by decide +kernel
theorem dL_law__790 : decode cL_law_ 790 = .ok (.goto 4, 3) := by decide +kernel
theorem dL_law__793 : decode cL_law_ 793 = .ok (.iconst 0, 1) := by decide +kernel
theorem dL_law__794 : decode cL_law_ 794 = .ok (.aload_n 3, 1) := by decide +kernel
theorem dL_law__795 : decode cL_law_ 795 = .ok (.invokestatic 191, 3) := by decide +kernel
theorem dL_law__798 : decode cL_law_ 798 = .ok (.istore 5, 2) := by decide +kernel
theorem dL_law__800 : decode cL_law_ 800 = .ok (.aload_n 2, 1) := by decide +kernel
theorem dL_law__801 : decode cL_law_ 801 = .ok (.aload_n 0, 1) := by decide +kernel
theorem dL_law__802 : decode cL_law_ 802 = .ok (.iload 4, 2) := by decide +kernel
theorem dL_law__804 : decode cL_law_ 804 = .ok (.iconst 1, 1) := by decide +kernel
theorem dL_law__805 : decode cL_law_ 805 = .ok (.iadd, 1) := by decide +kernel
theorem dL_law__806 : decode cL_law_ 806 = .ok (.iaload, 1) := by decide +kernel
theorem dL_law__807 : decode cL_law_ 807 = .ok (.aload_n 0, 1) := by decide +kernel
theorem dL_law__808 : decode cL_law_ 808 = .ok (.iload 4, 2) := by decide +kernel
theorem dL_law__810 : decode cL_law_ 810 = .ok (.iconst 2, 1) := by decide +kernel
theorem dL_law__811 : decode cL_law_ 811 = .ok (.iadd, 1) := by decide +kernel
theorem dL_law__812 : decode cL_law_ 812 = .ok (.iaload, 1) := by decide +kernel
theorem dL_law__813 : decode cL_law_ 813 = .ok (.ifCond .eq 7, 3) := by decide +kernel
theorem dL_law__816 : decode cL_law_ 816 = .ok (.iconst 1, 1) := by decide +kernel
theorem dL_law__817 : decode cL_law_ 817 = .ok (.goto 4, 3) := by decide +kernel
theorem dL_law__820 : decode cL_law_ 820 = .ok (.iconst 0, 1) := by decide +kernel
theorem dL_law__821 : decode cL_law_ 821 = .ok (.invokevirtual 194, 3) := by decide +kernel
theorem dL_law__824 : decode cL_law_ 824 = .ok (.istore 6, 2) := by decide +kernel
theorem dL_law__826 : decode cL_law_ 826 = .ok (.goto 1026, 3) := by decide +kernel
theorem dL_law__829 : decode cL_law_ 829 = .ok (.aload_n 1, 1) := by decide +kernel
theorem dL_law__830 : decode cL_law_ 830 = .ok (.aload_n 0, 1) := by decide +kernel
theorem dL_law__831 : decode cL_law_ 831 = .ok (.iload 4, 2) := by decide +kernel
theorem dL_law__833 : decode cL_law_ 833 = .ok (.iconst 1, 1) := by decide +kernel
theorem dL_law__834 : decode cL_law_ 834 = .ok (.iadd, 1) := by decide +kernel
theorem dL_law__835 : decode cL_law_ 835 = .ok (.iaload, 1) := by decide +kernel
theorem dL_law__836 : decode cL_law_ 836 = .ok (.aload_n 3, 1) := by decide +kernel
theorem dL_law__837 : decode cL_law_ 837 = .ok (.invokestatic 195, 3) := by decide +kernel
theorem dL_law__840 : decode cL_law_ 840 = .ok (.istore 5, 2) := by decide +kernel
theorem dL_law__842 : decode cL_law_ 842 = .ok (.aload_n 2, 1) := by decide +kernel
theorem dL_law__843 : decode cL_law_ 843 = .ok (.aload_n 0, 1) := by decide +kernel
theorem dL_law__844 : decode cL_law_ 844 = .ok (.iload 4, 2) := by decide +kernel
theorem dL_law__846 : decode cL_law_ 846 = .ok (.iconst 1, 1) := by decide +kernel
theorem dL_law__847 : decode cL_law_ 847 = .ok (.iadd, 1) := by decide +kernel
theorem dL_law__848 : decode cL_law_ 848 = .ok (.iaload, 1) := by decide +kernel
theorem dL_law__849 : decode cL_law_ 849 = .ok (.invokevirtual 197, 3) := by decide +kernel
theorem dL_law__852 : decode cL_law_ 852 = .ok (.istore 6, 2) := by decide +kernel
theorem dL_law__854 : decode cL_law_ 854 = .ok (.goto 998, 3) := by decide +kernel
theorem dL_law__857 : decode cL_law_ 857 = .ok (.aload_n 1, 1) := by decide +kernel
theorem dL_law__858 : decode cL_law_ 858 = .ok (.aload_n 0, 1) := by decide +kernel
theorem dL_law__859 : decode cL_law_ 859 = .ok (.iload 4, 2) := by decide +kernel
theorem dL_law__861 : decode cL_law_ 861 = .ok (.iconst 1, 1) := by decide +kernel
theorem dL_law__862 : decode cL_law_ 862 = .ok (.iadd, 1) := by decide +kernel
theorem dL_law__863 : decode cL_law_ 863 = .ok (.iaload, 1) := by decide +kernel
theorem dL_law__864 : decode cL_law_ 864 = .ok (.aload_n 0, 1) := by decide +kernel
theorem dL_law__865 : decode cL_law_ 865 = .ok (.iload 4, 2) := by decide +kernel
theorem dL_law__867 : decode cL_law_ 867 = .ok (.iconst 2, 1) := by decide +kernel
theorem dL_law__868 : decode cL_law_ 868 = .ok (.iadd, 1) := by decide +kernel
theorem dL_law__869 : decode cL_law_ 869 = .ok (.iaload, 1) := by decide +kernel
theorem dL_law__870 : decode cL_law_ 870 = .ok (.aload_n 3, 1) := by decide +kernel
theorem dL_law__871 : decode cL_law_ 871 = .ok (.invokestatic 198, 3) := by decide +kernel
theorem dL_law__874 : decode cL_law_ 874 = .ok (.istore 5, 2) := by decide +kernel
theorem dL_law__876 : decode cL_law_ 876 = .ok (.aload_n 2, 1) := by decide +kernel
theorem dL_law__877 : decode cL_law_ 877 = .ok (.aload_n 0, 1) := by decide +kernel
theorem dL_law__878 : decode cL_law_ 878 = .ok (.iload 4, 2) := by decide +kernel
theorem dL_law__880 : decode cL_law_ 880 = .ok (.iconst 1, 1) := by decide +kernel
theorem dL_law__881 : decode cL_law_ 881 = .ok (.iadd, 1) := by decide +kernel
theorem dL_law__882 : decode cL_law_ 882 = .ok (.iaload, 1) := by decide +kernel
theorem dL_law__883 : decode cL_law_ 883 = .ok (.aload_n 0, 1) := by decide +kernel
theorem dL_law__884 : decode cL_law_ 884 = .ok (.iload 4, 2) := by decide +kernel
theorem dL_law__886 : decode cL_law_ 886 = .ok (.iconst 2, 1) := by decide +kernel
theorem dL_law__887 : decode cL_law_ 887 = .ok (.iadd, 1) := by decide +kernel
theorem dL_law__888 : decode cL_law_ 888 = .ok (.iaload, 1) := by decide +kernel
theorem dL_law__889 : decode cL_law_ 889 = .ok (.invokevirtual 200, 3) := by decide +kernel
theorem dL_law__892 : decode cL_law_ 892 = .ok (.istore 6, 2) := by decide +kernel
theorem dL_law__894 : decode cL_law_ 894 = .ok (.goto 958, 3) := by decide +kernel
theorem dL_law__897 : decode cL_law_ 897 = .ok (.aload_n 1, 1) := by decide +kernel
theorem dL_law__898 : decode cL_law_ 898 = .ok (.aload_n 0, 1) := by decide +kernel
theorem dL_law__899 : decode cL_law_ 899 = .ok (.iload 4, 2) := by decide +kernel
theorem dL_law__901 : decode cL_law_ 901 = .ok (.iconst 1, 1) := by decide +kernel
theorem dL_law__902 : decode cL_law_ 902 = .ok (.iadd, 1) := by decide +kernel
theorem dL_law__903 : decode cL_law_ 903 = .ok (.iaload, 1) := by decide +kernel
theorem dL_law__904 : decode cL_law_ 904 = .ok (.aload_n 0, 1) := by decide +kernel
theorem dL_law__905 : decode cL_law_ 905 = .ok (.iload 4, 2) := by decide +kernel
theorem dL_law__907 : decode cL_law_ 907 = .ok (.iconst 2, 1) := by decide +kernel
theorem dL_law__908 : decode cL_law_ 908 = .ok (.iadd, 1) := by decide +kernel
theorem dL_law__909 : decode cL_law_ 909 = .ok (.iaload, 1) := by decide +kernel
theorem dL_law__910 : decode cL_law_ 910 = .ok (.ifCond .eq 7, 3) := by decide +kernel
theorem dL_law__913 : decode cL_law_ 913 = .ok (.iconst 1, 1) := by decide +kernel
theorem dL_law__914 : decode cL_law_ 914 = .ok (.goto 4, 3) := by decide +kernel
theorem dL_law__917 : decode cL_law_ 917 = .ok (.iconst 0, 1) := by decide +kernel
theorem dL_law__918 : decode cL_law_ 918 = .ok (.aload_n 3, 1) := by decide +kernel
theorem dL_law__919 : decode cL_law_ 919 = .ok (.invokestatic 201, 3) := by decide +kernel
theorem dL_law__922 : decode cL_law_ 922 = .ok (.istore 5, 2) := by decide +kernel
theorem dL_law__924 : decode cL_law_ 924 = .ok (.aload_n 2, 1) := by decide +kernel
theorem dL_law__925 : decode cL_law_ 925 = .ok (.aload_n 0, 1) := by decide +kernel
theorem dL_law__926 : decode cL_law_ 926 = .ok (.iload 4, 2) := by decide +kernel
theorem dL_law__928 : decode cL_law_ 928 = .ok (.iconst 1, 1) := by decide +kernel
theorem dL_law__929 : decode cL_law_ 929 = .ok (.iadd, 1) := by decide +kernel
theorem dL_law__930 : decode cL_law_ 930 = .ok (.iaload, 1) := by decide +kernel
theorem dL_law__931 : decode cL_law_ 931 = .ok (.aload_n 0, 1) := by decide +kernel
theorem dL_law__932 : decode cL_law_ 932 = .ok (.iload 4, 2) := by decide +kernel
theorem dL_law__934 : decode cL_law_ 934 = .ok (.iconst 2, 1) := by decide +kernel
theorem dL_law__935 : decode cL_law_ 935 = .ok (.iadd, 1) := by decide +kernel
theorem dL_law__936 : decode cL_law_ 936 = .ok (.iaload, 1) := by decide +kernel
theorem dL_law__937 : decode cL_law_ 937 = .ok (.ifCond .eq 7, 3) := by decide +kernel
theorem dL_law__940 : decode cL_law_ 940 = .ok (.iconst 1, 1) := by decide +kernel
theorem dL_law__941 : decode cL_law_ 941 = .ok (.goto 4, 3) := by decide +kernel
theorem dL_law__944 : decode cL_law_ 944 = .ok (.iconst 0, 1) := by decide +kernel
theorem dL_law__945 : decode cL_law_ 945 = .ok (.invokevirtual 203, 3) := by decide +kernel
theorem dL_law__948 : decode cL_law_ 948 = .ok (.istore 6, 2) := by decide +kernel
theorem dL_law__950 : decode cL_law_ 950 = .ok (.goto 902, 3) := by decide +kernel
theorem dL_law__953 : decode cL_law_ 953 = .ok (.aload_n 1, 1) := by decide +kernel
theorem dL_law__954 : decode cL_law_ 954 = .ok (.aload_n 0, 1) := by decide +kernel
theorem dL_law__955 : decode cL_law_ 955 = .ok (.iload 4, 2) := by decide +kernel
theorem dL_law__957 : decode cL_law_ 957 = .ok (.iconst 1, 1) := by decide +kernel
theorem dL_law__958 : decode cL_law_ 958 = .ok (.iadd, 1) := by decide +kernel
theorem dL_law__959 : decode cL_law_ 959 = .ok (.iaload, 1) := by decide +kernel
theorem dL_law__960 : decode cL_law_ 960 = .ok (.aload_n 0, 1) := by decide +kernel
theorem dL_law__961 : decode cL_law_ 961 = .ok (.iload 4, 2) := by decide +kernel
theorem dL_law__963 : decode cL_law_ 963 = .ok (.iconst 2, 1) := by decide +kernel
theorem dL_law__964 : decode cL_law_ 964 = .ok (.iadd, 1) := by decide +kernel
theorem dL_law__965 : decode cL_law_ 965 = .ok (.iaload, 1) := by decide +kernel
theorem dL_law__966 : decode cL_law_ 966 = .ok (.aload_n 3, 1) := by decide +kernel
theorem dL_law__967 : decode cL_law_ 967 = .ok (.invokestatic 204, 3) := by decide +kernel
theorem dL_law__970 : decode cL_law_ 970 = .ok (.istore 5, 2) := by decide +kernel
theorem dL_law__972 : decode cL_law_ 972 = .ok (.aload_n 2, 1) := by decide +kernel
theorem dL_law__973 : decode cL_law_ 973 = .ok (.aload_n 0, 1) := by decide +kernel
theorem dL_law__974 : decode cL_law_ 974 = .ok (.iload 4, 2) := by decide +kernel
theorem dL_law__976 : decode cL_law_ 976 = .ok (.iconst 1, 1) := by decide +kernel
theorem dL_law__977 : decode cL_law_ 977 = .ok (.iadd, 1) := by decide +kernel
theorem dL_law__978 : decode cL_law_ 978 = .ok (.iaload, 1) := by decide +kernel
theorem dL_law__979 : decode cL_law_ 979 = .ok (.aload_n 0, 1) := by decide +kernel
theorem dL_law__980 : decode cL_law_ 980 = .ok (.iload 4, 2) := by decide +kernel
theorem dL_law__982 : decode cL_law_ 982 = .ok (.iconst 2, 1) := by decide +kernel
theorem dL_law__983 : decode cL_law_ 983 = .ok (.iadd, 1) := by decide +kernel
theorem dL_law__984 : decode cL_law_ 984 = .ok (.iaload, 1) := by decide +kernel
theorem dL_law__985 : decode cL_law_ 985 = .ok (.invokevirtual 206, 3) := by decide +kernel
theorem dL_law__988 : decode cL_law_ 988 = .ok (.istore 6, 2) := by decide +kernel
theorem dL_law__990 : decode cL_law_ 990 = .ok (.goto 862, 3) := by decide +kernel
theorem dL_law__993 : decode cL_law_ 993 = .ok (.aload_n 1, 1) := by decide +kernel
theorem dL_law__994 : decode cL_law_ 994 = .ok (.aload_n 0, 1) := by decide +kernel
theorem dL_law__995 : decode cL_law_ 995 = .ok (.iload 4, 2) := by decide +kernel
theorem dL_law__997 : decode cL_law_ 997 = .ok (.iconst 1, 1) := by decide +kernel
theorem dL_law__998 : decode cL_law_ 998 = .ok (.iadd, 1) := by decide +kernel
theorem dL_law__999 : decode cL_law_ 999 = .ok (.iaload, 1) := by decide +kernel
theorem dL_law__1000 : decode cL_law_ 1000 = .ok (.aload_n 3, 1) := by decide +kernel
theorem dL_law__1001 : decode cL_law_ 1001 = .ok (.invokestatic 207, 3) := by decide +kernel
theorem dL_law__1004 : decode cL_law_ 1004 = .ok (.istore 5, 2) := by decide +kernel
theorem dL_law__1006 : decode cL_law_ 1006 = .ok (.aload_n 2, 1) := by decide +kernel
theorem dL_law__1007 : decode cL_law_ 1007 = .ok (.aload_n 0, 1) := by decide +kernel
theorem dL_law__1008 : decode cL_law_ 1008 = .ok (.iload 4, 2) := by decide +kernel
