/-! DECODE ROWS OF THE LAW, by program -/
theorem dL_led_0 : gd cL_led 0 (.aload_n 2) 1 1 := by decide +kernel
theorem dL_led_1 : decode cL_led 1 = .ok (.iconst 0, 1) ∧ 1 + 1 = 2 ∧ Int32.ofInt (0) = (0) := by decide +kernel
theorem dL_led_2 : gd cL_led 2 (.aload_n 0) 1 3 := by decide +kernel
theorem dL_led_3 : gd cL_led 3 (.iload_n 1) 1 4 := by decide +kernel
theorem dL_led_4 : gd cL_led 4 (.invokevirtual 7) 3 7 := by decide +kernel
theorem dL_led_7 : gd cL_led 7 (.i2l) 1 8 := by decide +kernel
theorem dL_led_8 : gd cL_led 8 (.lastore) 1 9 := by decide +kernel
theorem dL_led_9 : gb cL_led 9 (.goto 6) (6) 12 15 := by decide +kernel
theorem dL_led_12 : gd cL_led 12 (.astore_n 3) 1 13 := by decide +kernel
theorem dL_led_13 : decode cL_led 13 = .ok (.iconst 1, 1) ∧ 13 + 1 = 14 ∧ Int32.ofInt (1) = (1) := by decide +kernel
theorem dL_led_14 : gd cL_led 14 (.ireturn) 1 15 := by decide +kernel
theorem dL_led_15 : decode cL_led 15 = .ok (.iconst 0, 1) ∧ 15 + 1 = 16 ∧ Int32.ofInt (0) = (0) := by decide +kernel
theorem dL_led_16 : gd cL_led 16 (.ireturn) 1 17 := by decide +kernel
theorem dL_law_0 : gd cL_law 0 (.new 8) 3 3 := by decide +kernel
theorem dL_law_3 : gd cL_law 3 (.dup) 1 4 := by decide +kernel
theorem dL_law_4 : gd cL_law 4 (.invokespecial 15) 3 7 := by decide +kernel
theorem dL_law_7 : gd cL_law 7 (.astore_n 1) 1 8 := by decide +kernel
theorem dL_law_8 : gd cL_law 8 (.new 16) 3 11 := by decide +kernel
theorem dL_law_11 : gd cL_law 11 (.dup) 1 12 := by decide +kernel
theorem dL_law_12 : gd cL_law 12 (.invokespecial 18) 3 15 := by decide +kernel
theorem dL_law_15 : gd cL_law 15 (.astore_n 2) 1 16 := by decide +kernel
theorem dL_law_16 : decode cL_law 16 = .ok (.iconst 1, 1) ∧ 16 + 1 = 17 ∧ Int32.ofInt (1) = (1) := by decide +kernel
theorem dL_law_17 : gd cL_law 17 (.newarray .long) 2 19 := by decide +kernel
theorem dL_law_19 : gd cL_law 19 (.astore_n 3) 1 20 := by decide +kernel
theorem dL_law_20 : decode cL_law 20 = .ok (.iconst 0, 1) ∧ 20 + 1 = 21 ∧ Int32.ofInt (0) = (0) := by decide +kernel
theorem dL_law_21 : gd cL_law 21 (.istore 4) 2 23 := by decide +kernel
theorem dL_law_23 : gd cL_law 23 (.iload 4) 2 25 := by decide +kernel
theorem dL_law_25 : gd cL_law 25 (.aload_n 0) 1 26 := by decide +kernel
theorem dL_law_26 : gd cL_law 26 (.arraylength) 1 27 := by decide +kernel
theorem dL_law_27 : decode cL_law 27 = .ok (.bipush 7, 2) ∧ 27 + 2 = 29 ∧ (Int8.ofInt (7)).toInt32 = (7) := by decide +kernel
theorem dL_law_29 : gd cL_law 29 (.isub) 1 30 := by decide +kernel
theorem dL_law_30 : gb cL_law 30 (.if_icmp .gt 1944) (1944) 33 1974 := by decide +kernel
theorem dL_law_33 : gd cL_law 33 (.aload_n 0) 1 34 := by decide +kernel
theorem dL_law_34 : gd cL_law 34 (.iload 4) 2 36 := by decide +kernel
theorem dL_law_36 : gd cL_law 36 (.iaload) 1 37 := by decide +kernel
theorem dL_law_37 : decode cL_law 37 = .ok (.bipush 63, 2) ∧ 37 + 2 = 39 ∧ (Int8.ofInt (63)).toInt32 = (63) := by decide +kernel
theorem dL_law_39 : gd cL_law 39 (.iand) 1 40 := by decide +kernel
theorem dL_law_40 : gsw cL_law 40 (1928) (0) (49) #[216, 289, 314, 327, 340, 377, 402, 427, 464, 501, 538, 575, 612, 637, 674, 723, 772, 833, 911, 972, 1009, 1034, 1059, 1072, 1145, 1248, 1285, 1322, 1371, 1408, 1421, 1446, 1471, 1496, 1521, 1534, 1547, 1584, 1597, 1610, 1647, 1684, 1721, 1758, 1783, 1796, 1809, 1834, 1890, 1915] 216 [256, 329, 354, 367, 380, 417, 442, 467, 504, 541, 578, 615, 652, 677, 714, 763, 812, 873, 951, 1012, 1049, 1074, 1099, 1112, 1185, 1288, 1325, 1362, 1411, 1448, 1461, 1486, 1511, 1536, 1561, 1574, 1587, 1624, 1637, 1650, 1687, 1724, 1761, 1798, 1823, 1836, 1849, 1874, 1930, 1955] 1968 := by unfold gsw; decide +kernel
theorem dL_law_256 : gd cL_law 256 (.aload_n 1) 1 257 := by decide +kernel
theorem dL_law_257 : gd cL_law 257 (.aload_n 0) 1 258 := by decide +kernel
theorem dL_law_258 : gd cL_law 258 (.iload 4) 2 260 := by decide +kernel
theorem dL_law_260 : decode cL_law 260 = .ok (.iconst 1, 1) ∧ 260 + 1 = 261 ∧ Int32.ofInt (1) = (1) := by decide +kernel
theorem dL_law_261 : gd cL_law 261 (.iadd) 1 262 := by decide +kernel
theorem dL_law_262 : gd cL_law 262 (.iaload) 1 263 := by decide +kernel
theorem dL_law_263 : gd cL_law 263 (.aload_n 0) 1 264 := by decide +kernel
theorem dL_law_264 : gd cL_law 264 (.iload 4) 2 266 := by decide +kernel
theorem dL_law_266 : decode cL_law 266 = .ok (.iconst 2, 1) ∧ 266 + 1 = 267 ∧ Int32.ofInt (2) = (2) := by decide +kernel
theorem dL_law_267 : gd cL_law 267 (.iadd) 1 268 := by decide +kernel
theorem dL_law_268 : gd cL_law 268 (.iaload) 1 269 := by decide +kernel
theorem dL_law_269 : gd cL_law 269 (.aload_n 0) 1 270 := by decide +kernel
theorem dL_law_270 : gd cL_law 270 (.iload 4) 2 272 := by decide +kernel
theorem dL_law_272 : decode cL_law 272 = .ok (.iconst 3, 1) ∧ 272 + 1 = 273 ∧ Int32.ofInt (3) = (3) := by decide +kernel
theorem dL_law_273 : gd cL_law 273 (.iadd) 1 274 := by decide +kernel
theorem dL_law_274 : gd cL_law 274 (.iaload) 1 275 := by decide +kernel
theorem dL_law_275 : gd cL_law 275 (.aload_n 0) 1 276 := by decide +kernel
theorem dL_law_276 : gd cL_law 276 (.iload 4) 2 278 := by decide +kernel
theorem dL_law_278 : decode cL_law 278 = .ok (.iconst 4, 1) ∧ 278 + 1 = 279 ∧ Int32.ofInt (4) = (4) := by decide +kernel
theorem dL_law_279 : gd cL_law 279 (.iadd) 1 280 := by decide +kernel
theorem dL_law_280 : gd cL_law 280 (.iaload) 1 281 := by decide +kernel
theorem dL_law_281 : gd cL_law 281 (.aload_n 0) 1 282 := by decide +kernel
theorem dL_law_282 : gd cL_law 282 (.iload 4) 2 284 := by decide +kernel
theorem dL_law_284 : decode cL_law 284 = .ok (.iconst 5, 1) ∧ 284 + 1 = 285 ∧ Int32.ofInt (5) = (5) := by decide +kernel
theorem dL_law_285 : gd cL_law 285 (.iadd) 1 286 := by decide +kernel
theorem dL_law_286 : gd cL_law 286 (.iaload) 1 287 := by decide +kernel
theorem dL_law_287 : gd cL_law 287 (.invokevirtual 19) 3 290 := by decide +kernel
theorem dL_law_290 : gd cL_law 290 (.aload_n 2) 1 291 := by decide +kernel
theorem dL_law_291 : gd cL_law 291 (.aload_n 0) 1 292 := by decide +kernel
theorem dL_law_292 : gd cL_law 292 (.iload 4) 2 294 := by decide +kernel
theorem dL_law_294 : decode cL_law 294 = .ok (.iconst 1, 1) ∧ 294 + 1 = 295 ∧ Int32.ofInt (1) = (1) := by decide +kernel
theorem dL_law_295 : gd cL_law 295 (.iadd) 1 296 := by decide +kernel
theorem dL_law_296 : gd cL_law 296 (.iaload) 1 297 := by decide +kernel
theorem dL_law_297 : gd cL_law 297 (.aload_n 0) 1 298 := by decide +kernel
theorem dL_law_298 : gd cL_law 298 (.iload 4) 2 300 := by decide +kernel
theorem dL_law_300 : decode cL_law 300 = .ok (.iconst 2, 1) ∧ 300 + 1 = 301 ∧ Int32.ofInt (2) = (2) := by decide +kernel
theorem dL_law_301 : gd cL_law 301 (.iadd) 1 302 := by decide +kernel
theorem dL_law_302 : gd cL_law 302 (.iaload) 1 303 := by decide +kernel
theorem dL_law_303 : gd cL_law 303 (.aload_n 0) 1 304 := by decide +kernel
theorem dL_law_304 : gd cL_law 304 (.iload 4) 2 306 := by decide +kernel
theorem dL_law_306 : decode cL_law 306 = .ok (.iconst 3, 1) ∧ 306 + 1 = 307 ∧ Int32.ofInt (3) = (3) := by decide +kernel
theorem dL_law_307 : gd cL_law 307 (.iadd) 1 308 := by decide +kernel
theorem dL_law_308 : gd cL_law 308 (.iaload) 1 309 := by decide +kernel
theorem dL_law_309 : gd cL_law 309 (.aload_n 0) 1 310 := by decide +kernel
theorem dL_law_310 : gd cL_law 310 (.iload 4) 2 312 := by decide +kernel
theorem dL_law_312 : decode cL_law 312 = .ok (.iconst 4, 1) ∧ 312 + 1 = 313 ∧ Int32.ofInt (4) = (4) := by decide +kernel
theorem dL_law_313 : gd cL_law 313 (.iadd) 1 314 := by decide +kernel
theorem dL_law_314 : gd cL_law 314 (.iaload) 1 315 := by decide +kernel
theorem dL_law_315 : gd cL_law 315 (.aload_n 0) 1 316 := by decide +kernel
theorem dL_law_316 : gd cL_law 316 (.iload 4) 2 318 := by decide +kernel
theorem dL_law_318 : decode cL_law 318 = .ok (.iconst 5, 1) ∧ 318 + 1 = 319 ∧ Int32.ofInt (5) = (5) := by decide +kernel
theorem dL_law_319 : gd cL_law 319 (.iadd) 1 320 := by decide +kernel
theorem dL_law_320 : gd cL_law 320 (.iaload) 1 321 := by decide +kernel
theorem dL_law_321 : gd cL_law 321 (.invokevirtual 23) 3 324 := by decide +kernel
theorem dL_law_324 : gb cL_law 324 (.if_icmp .eq 1644) (1644) 327 1968 := by decide +kernel
theorem dL_law_327 : decode cL_law 327 = .ok (.iconst 0, 1) ∧ 327 + 1 = 328 ∧ Int32.ofInt (0) = (0) := by decide +kernel
theorem dL_law_328 : gd cL_law 328 (.ireturn) 1 329 := by decide +kernel
theorem dL_law_329 : gd cL_law 329 (.aload_n 1) 1 330 := by decide +kernel
theorem dL_law_330 : gd cL_law 330 (.aload_n 0) 1 331 := by decide +kernel
theorem dL_law_331 : gd cL_law 331 (.iload 4) 2 333 := by decide +kernel
theorem dL_law_333 : decode cL_law 333 = .ok (.iconst 1, 1) ∧ 333 + 1 = 334 ∧ Int32.ofInt (1) = (1) := by decide +kernel
theorem dL_law_334 : gd cL_law 334 (.iadd) 1 335 := by decide +kernel
theorem dL_law_335 : gd cL_law 335 (.iaload) 1 336 := by decide +kernel
theorem dL_law_336 : gd cL_law 336 (.invokevirtual 24) 3 339 := by decide +kernel
theorem dL_law_339 : gd cL_law 339 (.aload_n 2) 1 340 := by decide +kernel
theorem dL_law_340 : gd cL_law 340 (.aload_n 0) 1 341 := by decide +kernel
theorem dL_law_341 : gd cL_law 341 (.iload 4) 2 343 := by decide +kernel
theorem dL_law_343 : decode cL_law 343 = .ok (.iconst 1, 1) ∧ 343 + 1 = 344 ∧ Int32.ofInt (1) = (1) := by decide +kernel
theorem dL_law_344 : gd cL_law 344 (.iadd) 1 345 := by decide +kernel
theorem dL_law_345 : gd cL_law 345 (.iaload) 1 346 := by decide +kernel
theorem dL_law_346 : gd cL_law 346 (.invokevirtual 27) 3 349 := by decide +kernel
theorem dL_law_349 : gb cL_law 349 (.if_icmp .eq 1619) (1619) 352 1968 := by decide +kernel
theorem dL_law_352 : decode cL_law 352 = .ok (.iconst 0, 1) ∧ 352 + 1 = 353 ∧ Int32.ofInt (0) = (0) := by decide +kernel
theorem dL_law_353 : gd cL_law 353 (.ireturn) 1 354 := by decide +kernel
theorem dL_law_354 : gd cL_law 354 (.aload_n 1) 1 355 := by decide +kernel
theorem dL_law_355 : gd cL_law 355 (.invokevirtual 28) 3 358 := by decide +kernel
theorem dL_law_358 : gd cL_law 358 (.aload_n 2) 1 359 := by decide +kernel
theorem dL_law_359 : gd cL_law 359 (.invokevirtual 32) 3 362 := by decide +kernel
theorem dL_law_362 : gb cL_law 362 (.if_icmp .eq 1606) (1606) 365 1968 := by decide +kernel
theorem dL_law_365 : decode cL_law 365 = .ok (.iconst 0, 1) ∧ 365 + 1 = 366 ∧ Int32.ofInt (0) = (0) := by decide +kernel
theorem dL_law_366 : gd cL_law 366 (.ireturn) 1 367 := by decide +kernel
theorem dL_law_367 : gd cL_law 367 (.aload_n 1) 1 368 := by decide +kernel
theorem dL_law_368 : gd cL_law 368 (.invokevirtual 33) 3 371 := by decide +kernel
theorem dL_law_371 : gd cL_law 371 (.aload_n 2) 1 372 := by decide +kernel
theorem dL_law_372 : gd cL_law 372 (.invokevirtual 36) 3 375 := by decide +kernel
theorem dL_law_375 : gb cL_law 375 (.if_icmp .eq 1593) (1593) 378 1968 := by decide +kernel
theorem dL_law_378 : decode cL_law 378 = .ok (.iconst 0, 1) ∧ 378 + 1 = 379 ∧ Int32.ofInt (0) = (0) := by decide +kernel
theorem dL_law_379 : gd cL_law 379 (.ireturn) 1 380 := by decide +kernel
theorem dL_law_380 : gd cL_law 380 (.aload_n 1) 1 381 := by decide +kernel
theorem dL_law_381 : gd cL_law 381 (.aload_n 0) 1 382 := by decide +kernel
theorem dL_law_382 : gd cL_law 382 (.iload 4) 2 384 := by decide +kernel
theorem dL_law_384 : decode cL_law 384 = .ok (.iconst 1, 1) ∧ 384 + 1 = 385 ∧ Int32.ofInt (1) = (1) := by decide +kernel
theorem dL_law_385 : gd cL_law 385 (.iadd) 1 386 := by decide +kernel
theorem dL_law_386 : gd cL_law 386 (.iaload) 1 387 := by decide +kernel
theorem dL_law_387 : gd cL_law 387 (.aload_n 0) 1 388 := by decide +kernel
theorem dL_law_388 : gd cL_law 388 (.iload 4) 2 390 := by decide +kernel
theorem dL_law_390 : decode cL_law 390 = .ok (.iconst 2, 1) ∧ 390 + 1 = 391 ∧ Int32.ofInt (2) = (2) := by decide +kernel
theorem dL_law_391 : gd cL_law 391 (.iadd) 1 392 := by decide +kernel
theorem dL_law_392 : gd cL_law 392 (.iaload) 1 393 := by decide +kernel
theorem dL_law_393 : gd cL_law 393 (.invokevirtual 37) 3 396 := by decide +kernel
theorem dL_law_396 : gd cL_law 396 (.aload_n 2) 1 397 := by decide +kernel
theorem dL_law_397 : gd cL_law 397 (.aload_n 0) 1 398 := by decide +kernel
theorem dL_law_398 : gd cL_law 398 (.iload 4) 2 400 := by decide +kernel
theorem dL_law_400 : decode cL_law 400 = .ok (.iconst 1, 1) ∧ 400 + 1 = 401 ∧ Int32.ofInt (1) = (1) := by decide +kernel
theorem dL_law_401 : gd cL_law 401 (.iadd) 1 402 := by decide +kernel
theorem dL_law_402 : gd cL_law 402 (.iaload) 1 403 := by decide +kernel
theorem dL_law_403 : gd cL_law 403 (.aload_n 0) 1 404 := by decide +kernel
theorem dL_law_404 : gd cL_law 404 (.iload 4) 2 406 := by decide +kernel
theorem dL_law_406 : decode cL_law 406 = .ok (.iconst 2, 1) ∧ 406 + 1 = 407 ∧ Int32.ofInt (2) = (2) := by decide +kernel
theorem dL_law_407 : gd cL_law 407 (.iadd) 1 408 := by decide +kernel
theorem dL_law_408 : gd cL_law 408 (.iaload) 1 409 := by decide +kernel
theorem dL_law_409 : gd cL_law 409 (.invokevirtual 41) 3 412 := by decide +kernel
theorem dL_law_412 : gb cL_law 412 (.if_icmp .eq 1556) (1556) 415 1968 := by decide +kernel
theorem dL_law_415 : decode cL_law 415 = .ok (.iconst 0, 1) ∧ 415 + 1 = 416 ∧ Int32.ofInt (0) = (0) := by decide +kernel
theorem dL_law_416 : gd cL_law 416 (.ireturn) 1 417 := by decide +kernel
theorem dL_law_417 : gd cL_law 417 (.aload_n 1) 1 418 := by decide +kernel
theorem dL_law_418 : gd cL_law 418 (.aload_n 0) 1 419 := by decide +kernel
theorem dL_law_419 : gd cL_law 419 (.iload 4) 2 421 := by decide +kernel
theorem dL_law_421 : decode cL_law 421 = .ok (.iconst 1, 1) ∧ 421 + 1 = 422 ∧ Int32.ofInt (1) = (1) := by decide +kernel
theorem dL_law_422 : gd cL_law 422 (.iadd) 1 423 := by decide +kernel
theorem dL_law_423 : gd cL_law 423 (.iaload) 1 424 := by decide +kernel
theorem dL_law_424 : gd cL_law 424 (.invokevirtual 42) 3 427 := by decide +kernel
theorem dL_law_427 : gd cL_law 427 (.aload_n 2) 1 428 := by decide +kernel
theorem dL_law_428 : gd cL_law 428 (.aload_n 0) 1 429 := by decide +kernel
theorem dL_law_429 : gd cL_law 429 (.iload 4) 2 431 := by decide +kernel
theorem dL_law_431 : decode cL_law 431 = .ok (.iconst 1, 1) ∧ 431 + 1 = 432 ∧ Int32.ofInt (1) = (1) := by decide +kernel
theorem dL_law_432 : gd cL_law 432 (.iadd) 1 433 := by decide +kernel
theorem dL_law_433 : gd cL_law 433 (.iaload) 1 434 := by decide +kernel
theorem dL_law_434 : gd cL_law 434 (.invokevirtual 45) 3 437 := by decide +kernel
theorem dL_law_437 : gb cL_law 437 (.if_icmp .eq 1531) (1531) 440 1968 := by decide +kernel
theorem dL_law_440 : decode cL_law 440 = .ok (.iconst 0, 1) ∧ 440 + 1 = 441 ∧ Int32.ofInt (0) = (0) := by decide +kernel
theorem dL_law_441 : gd cL_law 441 (.ireturn) 1 442 := by decide +kernel
theorem dL_law_442 : gd cL_law 442 (.aload_n 1) 1 443 := by decide +kernel
theorem dL_law_443 : gd cL_law 443 (.aload_n 0) 1 444 := by decide +kernel
theorem dL_law_444 : gd cL_law 444 (.iload 4) 2 446 := by decide +kernel
theorem dL_law_446 : decode cL_law 446 = .ok (.iconst 1, 1) ∧ 446 + 1 = 447 ∧ Int32.ofInt (1) = (1) := by decide +kernel
theorem dL_law_447 : gd cL_law 447 (.iadd) 1 448 := by decide +kernel
theorem dL_law_448 : gd cL_law 448 (.iaload) 1 449 := by decide +kernel
theorem dL_law_449 : gd cL_law 449 (.invokevirtual 46) 3 452 := by decide +kernel
theorem dL_law_452 : gd cL_law 452 (.aload_n 2) 1 453 := by decide +kernel
theorem dL_law_453 : gd cL_law 453 (.aload_n 0) 1 454 := by decide +kernel
theorem dL_law_454 : gd cL_law 454 (.iload 4) 2 456 := by decide +kernel
theorem dL_law_456 : decode cL_law 456 = .ok (.iconst 1, 1) ∧ 456 + 1 = 457 ∧ Int32.ofInt (1) = (1) := by decide +kernel
theorem dL_law_457 : gd cL_law 457 (.iadd) 1 458 := by decide +kernel
theorem dL_law_458 : gd cL_law 458 (.iaload) 1 459 := by decide +kernel
theorem dL_law_459 : gd cL_law 459 (.invokevirtual 49) 3 462 := by decide +kernel
theorem dL_law_462 : gb cL_law 462 (.if_icmp .eq 1506) (1506) 465 1968 := by decide +kernel
theorem dL_law_465 : decode cL_law 465 = .ok (.iconst 0, 1) ∧ 465 + 1 = 466 ∧ Int32.ofInt (0) = (0) := by decide +kernel
theorem dL_law_466 : gd cL_law 466 (.ireturn) 1 467 := by decide +kernel
theorem dL_law_467 : gd cL_law 467 (.aload_n 1) 1 468 := by decide +kernel
theorem dL_law_468 : gd cL_law 468 (.aload_n 0) 1 469 := by decide +kernel
theorem dL_law_469 : gd cL_law 469 (.iload 4) 2 471 := by decide +kernel
theorem dL_law_471 : decode cL_law 471 = .ok (.iconst 1, 1) ∧ 471 + 1 = 472 ∧ Int32.ofInt (1) = (1) := by decide +kernel
theorem dL_law_472 : gd cL_law 472 (.iadd) 1 473 := by decide +kernel
theorem dL_law_473 : gd cL_law 473 (.iaload) 1 474 := by decide +kernel
theorem dL_law_474 : gd cL_law 474 (.aload_n 0) 1 475 := by decide +kernel
theorem dL_law_475 : gd cL_law 475 (.iload 4) 2 477 := by decide +kernel
theorem dL_law_477 : decode cL_law 477 = .ok (.iconst 2, 1) ∧ 477 + 1 = 478 ∧ Int32.ofInt (2) = (2) := by decide +kernel
theorem dL_law_478 : gd cL_law 478 (.iadd) 1 479 := by decide +kernel
theorem dL_law_479 : gd cL_law 479 (.iaload) 1 480 := by decide +kernel
theorem dL_law_480 : gd cL_law 480 (.invokevirtual 50) 3 483 := by decide +kernel
theorem dL_law_483 : gd cL_law 483 (.aload_n 2) 1 484 := by decide +kernel
theorem dL_law_484 : gd cL_law 484 (.aload_n 0) 1 485 := by decide +kernel
theorem dL_law_485 : gd cL_law 485 (.iload 4) 2 487 := by decide +kernel
theorem dL_law_487 : decode cL_law 487 = .ok (.iconst 1, 1) ∧ 487 + 1 = 488 ∧ Int32.ofInt (1) = (1) := by decide +kernel
theorem dL_law_488 : gd cL_law 488 (.iadd) 1 489 := by decide +kernel
theorem dL_law_489 : gd cL_law 489 (.iaload) 1 490 := by decide +kernel
theorem dL_law_490 : gd cL_law 490 (.aload_n 0) 1 491 := by decide +kernel
theorem dL_law_491 : gd cL_law 491 (.iload 4) 2 493 := by decide +kernel
theorem dL_law_493 : decode cL_law 493 = .ok (.iconst 2, 1) ∧ 493 + 1 = 494 ∧ Int32.ofInt (2) = (2) := by decide +kernel
theorem dL_law_494 : gd cL_law 494 (.iadd) 1 495 := by decide +kernel
theorem dL_law_495 : gd cL_law 495 (.iaload) 1 496 := by decide +kernel
