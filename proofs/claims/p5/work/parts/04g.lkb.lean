theorem lk_380 : xLq RX12 (3, 61, 12, 38, 84) := ⟨by decide, _, rfl, ⟨rfl, (RX12, TX12, 47), .array .boolean, rfl, by decide, xtc7 11 rfl rfl, rfl, (fun _ => rfl), by decide +kernel, Or.inr ⟨_, rfl⟩⟩⟩
theorem lk_381 : xLq RX12 (3, 61, 12, 39, 87) := ⟨by decide, _, rfl, ⟨rfl, (RX12, TX12, 47), .array .int, rfl, by decide, xtc7 12 rfl rfl, rfl, (fun _ => rfl), by decide +kernel, Or.inr ⟨_, rfl⟩⟩⟩
theorem lk_382 : xLq RX12 (3, 61, 12, 40, 90) := ⟨by decide, _, rfl, ⟨rfl, (RX12, TX12, 47), .array .int, rfl, by decide, xtc7 13 rfl rfl, rfl, (fun _ => rfl), by decide +kernel, Or.inr ⟨_, rfl⟩⟩⟩
theorem lk_383 : xLq RX12 (3, 61, 12, 43, 93) := ⟨by decide, _, rfl, ⟨rfl, (RX12, TX12, 47), .array .int, rfl, by decide, xtc7 16 rfl rfl, rfl, (fun _ => rfl), by decide +kernel, Or.inr ⟨_, rfl⟩⟩⟩
theorem lk_384 : xLq RX12 (3, 61, 12, 44, 96) := ⟨by decide, _, rfl, ⟨rfl, (RX12, TX12, 47), .array .int, rfl, by decide, xtc7 17 rfl rfl, rfl, (fun _ => rfl), by decide +kernel, Or.inr ⟨_, rfl⟩⟩⟩
theorem lk_385 : xLq RX12 (3, 61, 12, 45, 99) := ⟨by decide, _, rfl, ⟨rfl, (RX12, TX12, 47), .array .int, rfl, by decide, xtc7 18 rfl rfl, rfl, (fun _ => rfl), by decide +kernel, Or.inr ⟨_, rfl⟩⟩⟩
theorem lk_386 : xLq RX12 (3, 61, 12, 46, 102) := ⟨by decide, _, rfl, ⟨rfl, (RX12, TX12, 47), .array .int, rfl, by decide, xtc7 19 rfl rfl, rfl, (fun _ => rfl), by decide +kernel, Or.inr ⟨_, rfl⟩⟩⟩
theorem lk_387 : xLq RX12 (3, 1, 12, 24, 276) := ⟨by decide, _, rfl, ⟨rfl, (RX12, TX12, 47), rfl, by decide, xtc6 237 rfl rfl⟩⟩
theorem lk_388 : xLq RX12 (3, 13, 187, 96, 329) := ⟨by decide, _, rfl, ⟨rfl, mX12_leftOf, rfl, xtc8 157 rfl rfl, xtc8 159 rfl rfl, xtb 94 (by decide +kernel) rfl, (RX12, TX12, 47), rfl, rfl⟩⟩
theorem lk_389 : xLq RX12 (3, 14, 12, 24, 276) := ⟨by decide, _, rfl, ⟨rfl, (RX12, TX12, 47), .int, rfl, by decide, xtc6 237 rfl rfl, rfl, (fun h => by cases h), by decide +kernel, rfl⟩⟩
theorem lk_390 : xLq RX12 (3, 1, 12, 29, 60) := ⟨by decide, _, rfl, ⟨rfl, (RX12, TX12, 47), rfl, by decide, xtc7 2 rfl rfl⟩⟩
theorem lk_391 : xLq RX12 (3, 13, 163, 96, 314) := ⟨by decide, _, rfl, ⟨rfl, mX12_isJoined, rfl, xtc8 133 rfl rfl, xtc8 135 rfl rfl, xtb 91 (by decide +kernel) rfl, (RX12, TX12, 47), rfl, rfl⟩⟩
theorem lk_392 : xLq RX12 (3, 1, 12, 30, 63) := ⟨by decide, _, rfl, ⟨rfl, (RX12, TX12, 47), rfl, by decide, xtc7 3 rfl rfl⟩⟩
theorem lk_393 : xLq RX12 (3, 1, 12, 44, 96) := ⟨by decide, _, rfl, ⟨rfl, (RX12, TX12, 47), rfl, by decide, xtc7 17 rfl rfl⟩⟩
theorem lk_394 : xLq RX12 (3, 13, 114, 96, 400) := ⟨by decide, _, rfl, ⟨rfl, mX12_allTests, rfl, xtc9 80 rfl rfl, xtc9 82 rfl rfl, xtb 114 (by decide +kernel) rfl, (RX12, TX12, 47), rfl, rfl⟩⟩
theorem lk_395 : xLq RX12 (3, 13, 179, 98, 397) := ⟨by decide, _, rfl, ⟨rfl, mX12_lawAt, rfl, xtc9 73 rfl rfl, xtc9 74 rfl rfl⟩⟩
theorem lk_396 : xLq RX12 (3, 13, 177, 96, 393) := ⟨by decide, _, rfl, ⟨rfl, mX12_lastsOf, rfl, xtc9 48 rfl rfl, xtc9 50 rfl rfl, xtb 110 (by decide +kernel) rfl, (RX12, TX12, 47), rfl, rfl⟩⟩
theorem lk_397 : xLq RX12 (3, 1, 12, 43, 93) := ⟨by decide, _, rfl, ⟨rfl, (RX12, TX12, 47), rfl, by decide, xtc7 16 rfl rfl⟩⟩
theorem lk_398 : xLq RX12 (3, 13, 174, 96, 403) := ⟨by decide, _, rfl, ⟨rfl, mX12_keeps, rfl, xtc9 69 rfl rfl, xtc9 71 rfl rfl, xtb 112 (by decide +kernel) rfl, (RX12, TX12, 47), rfl, rfl⟩⟩
theorem lk_399 : xLq RX12 (3, 13, 164, 96, 406) := ⟨by decide, _, rfl, ⟨rfl, mX12_isLaw, rfl, xtc9 76 rfl rfl, xtc9 78 rfl rfl, xtb 113 (by decide +kernel) rfl, (RX12, TX12, 47), rfl, rfl⟩⟩
theorem lk_400 : xLq RX12 (3, 1, 12, 39, 87) := ⟨by decide, _, rfl, ⟨rfl, (RX12, TX12, 47), rfl, by decide, xtc7 12 rfl rfl⟩⟩
theorem lk_401 : xLq RX12 (3, 1, 12, 42, 361) := ⟨by decide, _, rfl, ⟨rfl, (RX12, TX12, 47), rfl, by decide, xtc7 15 rfl rfl⟩⟩
theorem lk_402 : xLq RX12 (3, 13, 118, 98, 344) := ⟨by decide, _, rfl, ⟨rfl, mX12_at, rfl, xtc8 205 rfl rfl, xtc8 206 rfl rfl⟩⟩
theorem lk_403 : xLq RX12 (3, 14, 12, 42, 361) := ⟨by decide, _, rfl, ⟨rfl, (RX12, TX12, 47), .int, rfl, by decide, xtc7 15 rfl rfl, rfl, (fun h => by cases h), by decide +kernel, rfl⟩⟩
theorem lk_404 : xLq RX12 (3, 13, 165, 96, 287) := ⟨by decide, _, rfl, ⟨rfl, mX12_isLed, rfl, xtc8 81 rfl rfl, xtc8 83 rfl rfl, xtb 81 (by decide +kernel) rfl, (RX12, TX12, 47), rfl, rfl⟩⟩
theorem lk_405 : xLq RX12 (3, 13, 185, 96, 253) := ⟨by decide, _, rfl, ⟨rfl, mX12_leastNow, rfl, xtc8 20 rfl rfl, xtc8 22 rfl rfl, xtb 74 (by decide +kernel) rfl, (RX12, TX12, 47), rfl, rfl⟩⟩
theorem lk_406 : xLq RX12 (3, 52, 9999, 0, 233) := ⟨by decide, _, rfl, ⟨rfl, xtc8 24 rfl rfl⟩⟩
theorem lk_407 : xLq RX12 (3, 1, 12, 31, 66) := ⟨by decide, _, rfl, ⟨rfl, (RX12, TX12, 47), rfl, by decide, xtc7 4 rfl rfl⟩⟩
theorem lk_408 : xLq RX12 (3, 1, 12, 33, 290) := ⟨by decide, _, rfl, ⟨rfl, (RX12, TX12, 47), rfl, by decide, xtc7 6 rfl rfl⟩⟩
theorem lk_409 : xLq RX12 (3, 14, 12, 33, 290) := ⟨by decide, _, rfl, ⟨rfl, (RX12, TX12, 47), .int, rfl, by decide, xtc7 6 rfl rfl, rfl, (fun h => by cases h), by decide +kernel, rfl⟩⟩
theorem lk_410 : xLq RX12 (3, 13, 200, 98, 379) := ⟨by decide, _, rfl, ⟨rfl, mX12_ones, rfl, xtc9 12 rfl rfl, xtc9 13 rfl rfl⟩⟩
theorem lk_411 : xLq RX12 (3, 13, 160, 96, 382) := ⟨by decide, _, rfl, ⟨rfl, mX12_isFedBy, rfl, xtc9 15 rfl rfl, xtc9 17 rfl rfl, xtb 107 (by decide +kernel) rfl, (RX12, TX12, 47), rfl, rfl⟩⟩
theorem lk_412 : xLq RX12 (3, 1, 12, 16, 29) := ⟨by decide, _, rfl, ⟨rfl, (RX12, TX12, 47), rfl, by decide, xtc6 229 rfl rfl⟩⟩
theorem lk_413 : xLq RX12 (3, 13, 213, 96, 260) := ⟨by decide, _, rfl, ⟨rfl, mX12_reorders, rfl, xtc8 33 rfl rfl, xtc8 35 rfl rfl, xtb 75 (by decide +kernel) rfl, (RX12, TX12, 47), rfl, rfl⟩⟩
theorem lk_414 : xLq RX12 (3, 13, 207, 96, 373) := ⟨by decide, _, rfl, ⟨rfl, mX12_plans, rfl, xtc8 224 rfl rfl, xtc8 226 rfl rfl, xtb 103 (by decide +kernel) rfl, (RX12, TX12, 47), rfl, rfl⟩⟩
theorem lk_415 : xLq RX12 (3, 1, 12, 41, 364) := ⟨by decide, _, rfl, ⟨rfl, (RX12, TX12, 47), rfl, by decide, xtc7 14 rfl rfl⟩⟩
theorem lk_416 : xLq RX12 (3, 1, 12, 40, 90) := ⟨by decide, _, rfl, ⟨rfl, (RX12, TX12, 47), rfl, by decide, xtc7 13 rfl rfl⟩⟩
theorem lk_417 : xLq RX12 (3, 1, 12, 38, 84) := ⟨by decide, _, rfl, ⟨rfl, (RX12, TX12, 47), rfl, by decide, xtc7 11 rfl rfl⟩⟩
theorem lk_418 : xLq RX12 (3, 13, 203, 96, 348) := ⟨by decide, _, rfl, ⟨rfl, mX12_panelOf, rfl, xtc8 216 rfl rfl, xtc8 218 rfl rfl, xtb 102 (by decide +kernel) rfl, (RX12, TX12, 47), rfl, rfl⟩⟩
theorem lk_419 : xLq RX12 (3, 1, 12, 37, 81) := ⟨by decide, _, rfl, ⟨rfl, (RX12, TX12, 47), rfl, by decide, xtc7 10 rfl rfl⟩⟩
theorem lk_420 : xLq RX12 (3, 13, 234, 96, 358) := ⟨by decide, _, rfl, ⟨rfl, mX12_values, rfl, xtc8 201 rfl rfl, xtc8 203 rfl rfl, xtb 99 (by decide +kernel) rfl, (RX12, TX12, 47), rfl, rfl⟩⟩
theorem lk_421 : xLq RX12 (3, 14, 12, 41, 364) := ⟨by decide, _, rfl, ⟨rfl, (RX12, TX12, 47), .int, rfl, by decide, xtc7 14 rfl rfl, rfl, (fun h => by cases h), by decide +kernel, rfl⟩⟩
theorem lk_422 : xLq RX12 (3, 13, 182, 96, 367) := ⟨by decide, _, rfl, ⟨rfl, mX12_lays, rfl, xtc8 228 rfl rfl, xtc8 230 rfl rfl, xtb 104 (by decide +kernel) rfl, (RX12, TX12, 47), rfl, rfl⟩⟩
theorem lk_423 : xLq RX12 (3, 13, 208, 96, 370) := ⟨by decide, _, rfl, ⟨rfl, mX12_plansOne, rfl, xtc8 232 rfl rfl, xtc8 234 rfl rfl, xtb 105 (by decide +kernel) rfl, (RX12, TX12, 47), rfl, rfl⟩⟩
theorem lk_424 : xLq RX12 (3, 13, 218, 96, 390) := ⟨by decide, _, rfl, ⟨rfl, mX12_shareOf, rfl, xtc9 36 rfl rfl, xtc9 38 rfl rfl, xtb 109 (by decide +kernel) rfl, (RX12, TX12, 47), rfl, rfl⟩⟩
theorem lk_425 : xLq RX12 (3, 13, 170, 96, 412) := ⟨by decide, _, rfl, ⟨rfl, mX12_isQuarrel, rfl, xtc9 96 rfl rfl, xtc9 98 rfl rfl, xtb 115 (by decide +kernel) rfl, (RX12, TX12, 47), rfl, rfl⟩⟩
theorem lk_426 : xLq RX12 (3, 13, 226, 96, 257) := ⟨by decide, _, rfl, ⟨rfl, mX12_swap, rfl, xtc8 37 rfl rfl, xtc8 39 rfl rfl, xtb 76 (by decide +kernel) rfl, (RX12, TX12, 47), rfl, rfl⟩⟩
theorem lk_427 : xLq RX12 (3, 1, 12, 45, 99) := ⟨by decide, _, rfl, ⟨rfl, (RX12, TX12, 47), rfl, by decide, xtc7 18 rfl rfl⟩⟩
theorem lk_428 : xLq RX12 (3, 13, 220, 98, 131) := ⟨by decide, _, rfl, ⟨rfl, mX12_six, rfl, xtc7 150 rfl rfl, xtc7 151 rfl rfl⟩⟩
theorem lk_429 : xLq RX12 (3, 13, 146, 98, 125) := ⟨by decide, _, rfl, ⟨rfl, mX12_five, rfl, xtc7 154 rfl rfl, xtc7 155 rfl rfl⟩⟩
theorem lk_430 : xLq RX12 (3, 52, 294, 0, 135) := ⟨by decide, _, rfl, ⟨rfl, xtc7 160 rfl rfl⟩⟩
theorem lk_431 : xLq RX12 (3, 13, 108, 96, 430) := ⟨by decide, _, rfl, ⟨rfl, mX12_aRule, rfl, xtc9 108 rfl rfl, xtc9 110 rfl rfl, xtb 116 (by decide +kernel) rfl, (RX12, TX12, 47), rfl, rfl⟩⟩
theorem lk_432 : xLq RX12 (3, 52, 32768, 0, 129) := ⟨by decide, _, rfl, ⟨rfl, xtc7 153 rfl rfl⟩⟩
theorem lk_433 : xLq RX12 (3, 13, 191, 96, 293) := ⟨by decide, _, rfl, ⟨rfl, mX12_meets, rfl, xtc8 105 rfl rfl, xtc8 107 rfl rfl, xtb 86 (by decide +kernel) rfl, (RX12, TX12, 47), rfl, rfl⟩⟩
theorem lk_434 : xLq RX12 (2, 35, 2294967296, 0, 250) := ⟨by decide, _, rfl, ⟨rfl, by decide, xtc8 10 rfl rfl⟩⟩
theorem lk_435 : xLq RX12 (3, 52, 1000000, 0, 251) := ⟨by decide, _, rfl, ⟨rfl, xtc8 11 rfl rfl⟩⟩
theorem lk_436 : xLq RX12 (3, 36, 999999, 0, 396) := ⟨by decide, _, rfl, ⟨rfl, by decide, xtc9 60 rfl rfl⟩⟩
theorem lk_437 : xLq RX12 (3, 71, 12, 23, 263) := ⟨by decide, _, rfl, ⟨rfl, (RX12, TX12, 47), .long, rfl, by decide, xtc6 236 rfl rfl, rfl, (fun h => by cases h), by decide +kernel, rfl⟩⟩
theorem lk_438 : xLq RX12 (3, 13, 151, 96, 351) := ⟨by decide, _, rfl, ⟨rfl, mX12_hasFlaw, rfl, xtc8 208 rfl rfl, xtc8 210 rfl rfl, xtb 100 (by decide +kernel) rfl, (RX12, TX12, 47), rfl, rfl⟩⟩
theorem lk_439 : xLq RX12 (3, 13, 206, 96, 355) := ⟨by decide, _, rfl, ⟨rfl, mX12_pieceOf, rfl, xtc8 212 rfl rfl, xtc8 214 rfl rfl, xtb 101 (by decide +kernel) rfl, (RX12, TX12, 47), rfl, rfl⟩⟩
theorem lk_440 : xLq RX1 (3, 1, 1, 0, 14) := ⟨by decide, _, rfl, ⟨rfl, (RX1, TX1, 10), rfl, by decide, xtc1 72 rfl rfl⟩⟩
theorem lk_441 : xLq RX1 (3, 13, 283, 40, 50) := ⟨by decide, _, rfl, ⟨rfl, mX5_clear, rfl, xtc3 73 rfl rfl, xtc3 74 rfl rfl, xtc3 75 rfl rfl, (RX5, TX5, 4), rfl, rfl⟩⟩
theorem lk_442 : xLq RX1 (3, 1, 1, 1, 18) := ⟨by decide, _, rfl, ⟨rfl, (RX1, TX1, 10), rfl, by decide, xtc1 75 rfl rfl⟩⟩
theorem lk_443 : xLq RX1 (3, 1, 1, 2, 21) := ⟨by decide, _, rfl, ⟨rfl, (RX1, TX1, 10), rfl, by decide, xtc1 78 rfl rfl⟩⟩
theorem lk_444 : xLq RX1 (3, 1, 1, 3, 24) := ⟨by decide, _, rfl, ⟨rfl, (RX1, TX1, 10), rfl, by decide, xtc1 81 rfl rfl⟩⟩
theorem lk_445 : xLq RX1 (3, 1, 1, 4, 27) := ⟨by decide, _, rfl, ⟨rfl, (RX1, TX1, 10), rfl, by decide, xtc1 83 rfl rfl⟩⟩
theorem lk_446 : xLq RX1 (3, 14, 1, 5, 30) := ⟨by decide, _, rfl, ⟨rfl, (RX1, TX1, 10), .int, rfl, by decide, xtc1 86 rfl rfl, rfl, (fun h => by cases h), by decide +kernel, rfl⟩⟩
theorem lk_447 : xLq RX1 (3, 14, 1, 6, 34) := ⟨by decide, _, rfl, ⟨rfl, (RX1, TX1, 10), .int, rfl, by decide, xtc1 90 rfl rfl, rfl, (fun h => by cases h), by decide +kernel, rfl⟩⟩
theorem lk_448 : xLq RX1 (3, 14, 1, 7, 37) := ⟨by decide, _, rfl, ⟨rfl, (RX1, TX1, 10), .int, rfl, by decide, xtc1 94 rfl rfl, rfl, (fun h => by cases h), by decide +kernel, rfl⟩⟩
theorem lk_449 : xLq RX1 (3, 14, 1, 8, 40) := ⟨by decide, _, rfl, ⟨rfl, (RX1, TX1, 10), .int, rfl, by decide, xtc1 99 rfl rfl, rfl, (fun h => by cases h), by decide +kernel, rfl⟩⟩
theorem lk_450 : xLq RX1 (3, 14, 1, 9, 53) := ⟨by decide, _, rfl, ⟨rfl, (RX1, TX1, 10), .int, rfl, by decide, xtc1 105 rfl rfl, rfl, (fun h => by cases h), by decide +kernel, rfl⟩⟩
theorem lk_451 : xLq RX1 (3, 13, 284, 40, 56) := ⟨by decide, _, rfl, ⟨rfl, mX5_copy, rfl, xtc4 1 rfl rfl, xtc4 2 rfl rfl, xtc4 3 rfl rfl, (RX5, TX5, 4), rfl, rfl⟩⟩
theorem lk_452 : xLq RX1 (3, 1, 1, 5, 30) := ⟨by decide, _, rfl, ⟨rfl, (RX1, TX1, 10), rfl, by decide, xtc1 86 rfl rfl⟩⟩
theorem lk_453 : xLq RX1 (3, 1, 1, 6, 34) := ⟨by decide, _, rfl, ⟨rfl, (RX1, TX1, 10), rfl, by decide, xtc1 90 rfl rfl⟩⟩
theorem lk_454 : xLq RX1 (3, 1, 1, 7, 37) := ⟨by decide, _, rfl, ⟨rfl, (RX1, TX1, 10), rfl, by decide, xtc1 94 rfl rfl⟩⟩
theorem lk_455 : xLq RX1 (3, 1, 1, 8, 40) := ⟨by decide, _, rfl, ⟨rfl, (RX1, TX1, 10), rfl, by decide, xtc1 99 rfl rfl⟩⟩
theorem lk_456 : xLq RX1 (3, 1, 1, 9, 53) := ⟨by decide, _, rfl, ⟨rfl, (RX1, TX1, 10), rfl, by decide, xtc1 105 rfl rfl⟩⟩
theorem lk_457 : xLq RX1 (3, 25, 0, 0, 1) := ⟨by decide, _, rfl, ⟨rfl, xtc1 41 rfl rfl⟩⟩
theorem lk_458 : xLq RX1 (3, 24, 5, 0, 7) := ⟨by decide, _, rfl, ⟨rfl, (RX5, TX5, 4), rfl, xtc1 42 rfl rfl, xtc1 43 rfl rfl, xtc1 4 rfl rfl⟩⟩
theorem lk_459 : xLq RX1 (3, 13, 288, 44, 11) := ⟨by decide, _, rfl, ⟨rfl, mX5_init, rfl, xtc1 44 rfl rfl, rfl, rfl, rfl, xtc1 45 rfl rfl⟩⟩
theorem lk_460 : xLq RX1 (3, 61, 1, 0, 14) := ⟨by decide, _, rfl, ⟨rfl, (RX1, TX1, 10), .object "BentScreens$Rows", rfl, by decide, xtc1 72 rfl rfl, rfl, (fun _ => rfl), by decide +kernel, Or.inl ⟨_, rfl⟩⟩⟩
theorem lk_461 : xLq RX1 (3, 61, 1, 1, 18) := ⟨by decide, _, rfl, ⟨rfl, (RX1, TX1, 10), .object "BentScreens$Rows", rfl, by decide, xtc1 75 rfl rfl, rfl, (fun _ => rfl), by decide +kernel, Or.inl ⟨_, rfl⟩⟩⟩
theorem lk_462 : xLq RX1 (3, 61, 1, 2, 21) := ⟨by decide, _, rfl, ⟨rfl, (RX1, TX1, 10), .object "BentScreens$Rows", rfl, by decide, xtc1 78 rfl rfl, rfl, (fun _ => rfl), by decide +kernel, Or.inl ⟨_, rfl⟩⟩⟩
theorem lk_463 : xLq RX1 (3, 61, 1, 3, 24) := ⟨by decide, _, rfl, ⟨rfl, (RX1, TX1, 10), .object "BentScreens$Rows", rfl, by decide, xtc1 81 rfl rfl, rfl, (fun _ => rfl), by decide +kernel, Or.inl ⟨_, rfl⟩⟩⟩
theorem lk_464 : xLq RX1 (3, 61, 1, 4, 27) := ⟨by decide, _, rfl, ⟨rfl, (RX1, TX1, 10), .object "BentScreens$Rows", rfl, by decide, xtc1 83 rfl rfl, rfl, (fun _ => rfl), by decide +kernel, Or.inl ⟨_, rfl⟩⟩⟩
theorem lk_465 : xLq RX1 (3, 1, 5, 3, 43) := ⟨by decide, _, rfl, ⟨rfl, (RX5, TX5, 4), rfl, by decide, xtc1 53 rfl rfl⟩⟩
theorem lk_466 : xLq RX1 (3, 13, 285, 40, 46) := ⟨by decide, _, rfl, ⟨rfl, mX5_get, rfl, xtc6 168 rfl rfl, xtc3 202 rfl rfl, xtc3 203 rfl rfl, (RX5, TX5, 4), rfl, rfl⟩⟩
theorem lk_467 : xLq RX2 (3, 1, 2, 9, 57) := ⟨by decide, _, rfl, ⟨rfl, (RX2, TX2, 11), rfl, by decide, xtc2 9 rfl rfl⟩⟩
theorem lk_468 : xLq RX2 (3, 1, 2, 2, 12) := ⟨by decide, _, rfl, ⟨rfl, (RX2, TX2, 11), rfl, by decide, xtc2 2 rfl rfl⟩⟩
theorem lk_469 : xLq RX2 (3, 1, 1, 4, 211) := ⟨by decide, _, rfl, ⟨rfl, (RX1, TX1, 10), rfl, by decide, xtc1 85 rfl rfl⟩⟩
theorem lk_470 : xLq RX2 (3, 1, 5, 3, 185) := ⟨by decide, _, rfl, ⟨rfl, (RX5, TX5, 4), rfl, by decide, xtc1 58 rfl rfl⟩⟩
theorem lk_471 : xLq RX2 (3, 1, 2, 5, 25) := ⟨by decide, _, rfl, ⟨rfl, (RX2, TX2, 11), rfl, by decide, xtc2 5 rfl rfl⟩⟩
theorem lk_472 : xLq RX2 (3, 13, 285, 40, 188) := ⟨by decide, _, rfl, ⟨rfl, mX5_get, rfl, xtc3 201 rfl rfl, xtc3 202 rfl rfl, xtc3 203 rfl rfl, (RX5, TX5, 4), rfl, rfl⟩⟩
theorem lk_473 : xLq RX2 (3, 1, 1, 5, 192) := ⟨by decide, _, rfl, ⟨rfl, (RX1, TX1, 10), rfl, by decide, xtc1 88 rfl rfl⟩⟩
theorem lk_474 : xLq RX2 (3, 1, 1, 6, 195) := ⟨by decide, _, rfl, ⟨rfl, (RX1, TX1, 10), rfl, by decide, xtc1 92 rfl rfl⟩⟩
theorem lk_475 : xLq RX2 (3, 14, 2, 9, 57) := ⟨by decide, _, rfl, ⟨rfl, (RX2, TX2, 11), .int, rfl, by decide, xtc2 9 rfl rfl, rfl, (fun h => by cases h), by decide +kernel, rfl⟩⟩
theorem lk_476 : xLq RX2 (3, 14, 2, 10, 88) := ⟨by decide, _, rfl, ⟨rfl, (RX2, TX2, 11), .int, rfl, by decide, xtc2 10 rfl rfl, rfl, (fun h => by cases h), by decide +kernel, rfl⟩⟩
theorem lk_477 : xLq RX2 (3, 25, 0, 0, 3) := ⟨by decide, _, rfl, ⟨rfl, xtc1 206 rfl rfl⟩⟩
theorem lk_478 : xLq RX2 (3, 24, 1, 0, 9) := ⟨by decide, _, rfl, ⟨rfl, (RX1, TX1, 10), rfl, xtc1 207 rfl rfl, xtc1 37 rfl rfl, xtc1 3 rfl rfl⟩⟩
theorem lk_479 : xLq RX2 (3, 13, 242, 13, 11) := ⟨by decide, _, rfl, ⟨rfl, mX1_init, rfl, "BentScreens", List.mem_of_getElem? (i := 333) (by decide +kernel), rfl, rfl, rfl, xtc1 39 rfl rfl⟩⟩
theorem lk_480 : xLq RX2 (3, 61, 2, 2, 12) := ⟨by decide, _, rfl, ⟨rfl, (RX2, TX2, 11), .object "BentScreens$Film", rfl, by decide, xtc2 2 rfl rfl, rfl, (fun _ => rfl), by decide +kernel, Or.inl ⟨_, rfl⟩⟩⟩
theorem lk_481 : xLq RX2 (3, 61, 2, 3, 18) := ⟨by decide, _, rfl, ⟨rfl, (RX2, TX2, 11), .array .int, rfl, by decide, xtc2 3 rfl rfl, rfl, (fun _ => rfl), by decide +kernel, Or.inr ⟨_, rfl⟩⟩⟩
theorem lk_482 : xLq RX2 (3, 61, 2, 4, 22) := ⟨by decide, _, rfl, ⟨rfl, (RX2, TX2, 11), .array .int, rfl, by decide, xtc2 4 rfl rfl, rfl, (fun _ => rfl), by decide +kernel, Or.inr ⟨_, rfl⟩⟩⟩
theorem lk_483 : xLq RX2 (3, 61, 2, 5, 25) := ⟨by decide, _, rfl, ⟨rfl, (RX2, TX2, 11), .array .int, rfl, by decide, xtc2 5 rfl rfl, rfl, (fun _ => rfl), by decide +kernel, Or.inr ⟨_, rfl⟩⟩⟩
theorem lk_484 : xLq RX2 (3, 61, 2, 0, 28) := ⟨by decide, _, rfl, ⟨rfl, (RX2, TX2, 11), .object "BentScreens$Told", rfl, by decide, xtc2 0 rfl rfl, rfl, (fun _ => rfl), by decide +kernel, Or.inl ⟨_, rfl⟩⟩⟩
theorem lk_485 : xLq RX2 (3, 24, 8, 0, 32) := ⟨by decide, _, rfl, ⟨rfl, (RX8, TX8, 6), rfl, xtc1 209 rfl rfl, xtc1 210 rfl rfl, xtc1 6 rfl rfl⟩⟩
theorem lk_486 : xLq RX2 (3, 1, 9, 0, 34) := ⟨by decide, _, rfl, ⟨rfl, (RX9, TX9, 14), rfl, by decide, xtc1 132 rfl rfl⟩⟩
theorem lk_487 : xLq RX2 (3, 13, 313, 68, 40) := ⟨by decide, _, rfl, ⟨rfl, mX8_init, rfl, xtc1 211 rfl rfl, rfl, rfl, rfl, xtc1 212 rfl rfl⟩⟩
theorem lk_488 : xLq RX2 (3, 61, 2, 1, 43) := ⟨by decide, _, rfl, ⟨rfl, (RX2, TX2, 11), .object "BentScreens$Tokens", rfl, by decide, xtc2 1 rfl rfl, rfl, (fun _ => rfl), by decide +kernel, Or.inl ⟨_, rfl⟩⟩⟩
theorem lk_489 : xLq RX2 (3, 13, 249, 16, 158) := ⟨by decide, _, rfl, ⟨rfl, mX2_isTooMany, rfl, xtc3 185 rfl rfl, xtc3 187 rfl rfl, xtb 5 (by decide +kernel) rfl, (RX2, TX2, 11), rfl, rfl⟩⟩
theorem lk_490 : xLq RX2 (3, 37, 1, 0, 115) := ⟨by decide, _, rfl, ⟨rfl, _, rfl, xtc3 169 rfl rfl⟩⟩
theorem lk_491 : xLq RX2 (3, 1, 2, 3, 18) := ⟨by decide, _, rfl, ⟨rfl, (RX2, TX2, 11), rfl, by decide, xtc2 3 rfl rfl⟩⟩
theorem lk_492 : xLq RX2 (3, 37, 2, 0, 162) := ⟨by decide, _, rfl, ⟨rfl, _, rfl, xtc3 205 rfl rfl⟩⟩
theorem lk_493 : xLq RX2 (3, 37, 3, 0, 165) := ⟨by decide, _, rfl, ⟨rfl, _, rfl, xtc3 207 rfl rfl⟩⟩
theorem lk_494 : xLq RX2 (3, 13, 70, 91, 168) := ⟨by decide, _, rfl, ⟨rfl, mX11_isIn, rfl, "BentScreens", List.mem_of_getElem? (i := 814) (by decide +kernel), xtc3 210 rfl rfl⟩⟩
theorem lk_495 : xLq RX2 (3, 1, 2, 4, 22) := ⟨by decide, _, rfl, ⟨rfl, (RX2, TX2, 11), rfl, by decide, xtc2 4 rfl rfl⟩⟩
theorem lk_496 : xLq RX2 (3, 1, 1, 1, 182) := ⟨by decide, _, rfl, ⟨rfl, (RX1, TX1, 10), rfl, by decide, xtc1 76 rfl rfl⟩⟩
theorem lk_497 : xLq RX2 (3, 1, 2, 7, 50) := ⟨by decide, _, rfl, ⟨rfl, (RX2, TX2, 11), rfl, by decide, xtc2 7 rfl rfl⟩⟩
theorem lk_498 : xLq RX2 (3, 1, 2, 8, 54) := ⟨by decide, _, rfl, ⟨rfl, (RX2, TX2, 11), rfl, by decide, xtc2 8 rfl rfl⟩⟩
theorem lk_499 : xLq RX2 (3, 13, 243, 8, 172) := ⟨by decide, _, rfl, ⟨rfl, mX1_rowsOf, rfl, xtc3 189 rfl rfl, xtc3 190 rfl rfl, xtc3 191 rfl rfl, (RX1, TX1, 10), rfl, rfl⟩⟩
theorem lk_500 : xLq RX2 (3, 13, 289, 40, 176) := ⟨by decide, _, rfl, ⟨rfl, mX5_isFull, rfl, xtc3 193 rfl rfl, xtc3 194 rfl rfl, xtc3 195 rfl rfl, (RX5, TX5, 4), rfl, rfl⟩⟩
theorem lk_501 : xLq RX2 (3, 13, 248, 16, 179) := ⟨by decide, _, rfl, ⟨rfl, mX2_isLifeTold, rfl, xtc3 197 rfl rfl, xtc3 199 rfl rfl, xtb 6 (by decide +kernel) rfl, (RX2, TX2, 11), rfl, rfl⟩⟩
theorem lk_502 : xLq RX2 (3, 13, 240, 8, 47) := ⟨by decide, _, rfl, ⟨rfl, mX1_clear, rfl, xtc3 69 rfl rfl, xtc3 70 rfl rfl, xtc3 71 rfl rfl, (RX1, TX1, 10), rfl, rfl⟩⟩
theorem lk_503 : xLq RX2 (3, 59, 2, 7, 50) := ⟨by decide, _, rfl, ⟨rfl, (RX2, TX2, 11), .boolean, rfl, by decide, xtc2 7 rfl rfl, rfl, (fun h => by cases h), by decide +kernel, rfl⟩⟩
theorem lk_504 : xLq RX2 (3, 59, 2, 8, 54) := ⟨by decide, _, rfl, ⟨rfl, (RX2, TX2, 11), .boolean, rfl, by decide, xtc2 8 rfl rfl, rfl, (fun h => by cases h), by decide +kernel, rfl⟩⟩
theorem lk_505 : xLq RX2 (3, 1, 2, 1, 43) := ⟨by decide, _, rfl, ⟨rfl, (RX2, TX2, 11), rfl, by decide, xtc2 1 rfl rfl⟩⟩
theorem lk_506 : xLq RX2 (3, 1, 2, 0, 28) := ⟨by decide, _, rfl, ⟨rfl, (RX2, TX2, 11), rfl, by decide, xtc2 0 rfl rfl⟩⟩
theorem lk_507 : xLq RX2 (3, 1, 9, 1, 61) := ⟨by decide, _, rfl, ⟨rfl, (RX9, TX9, 14), rfl, by decide, xtc1 136 rfl rfl⟩⟩
theorem lk_508 : xLq RX2 (3, 13, 319, 64, 64) := ⟨by decide, _, rfl, ⟨rfl, mX8_start, rfl, xtc3 77 rfl rfl, xtc3 78 rfl rfl, xtc3 79 rfl rfl, (RX8, TX8, 6), rfl, rfl⟩⟩
theorem lk_509 : xLq RX2 (3, 1, 1, 9, 68) := ⟨by decide, _, rfl, ⟨rfl, (RX1, TX1, 10), rfl, by decide, xtc1 104 rfl rfl⟩⟩
theorem lk_510 : xLq RX2 (3, 1, 8, 2, 71) := ⟨by decide, _, rfl, ⟨rfl, (RX8, TX8, 6), rfl, by decide, xtc1 218 rfl rfl⟩⟩
theorem lk_511 : xLq RX2 (3, 13, 252, 16, 74) := ⟨by decide, _, rfl, ⟨rfl, mX2_readLine, rfl, xtc3 101 rfl rfl, xtc3 103 rfl rfl, xtb 1 (by decide +kernel) rfl, (RX2, TX2, 11), rfl, rfl⟩⟩
theorem lk_512 : xLq RX2 (3, 1, 8, 3, 78) := ⟨by decide, _, rfl, ⟨rfl, (RX8, TX8, 6), rfl, by decide, xtc1 221 rfl rfl⟩⟩
theorem lk_513 : xLq RX2 (3, 13, 326, 72, 81) := ⟨by decide, _, rfl, ⟨rfl, mX9_take, rfl, xtc3 229 rfl rfl, xtc3 230 rfl rfl, xtc3 231 rfl rfl, (RX9, TX9, 14), rfl, rfl⟩⟩
theorem lk_514 : xLq RX2 (3, 14, 1, 9, 68) := ⟨by decide, _, rfl, ⟨rfl, (RX1, TX1, 10), .int, rfl, by decide, xtc1 104 rfl rfl, rfl, (fun h => by cases h), by decide +kernel, rfl⟩⟩
theorem lk_515 : xLq RX2 (3, 13, 245, 16, 85) := ⟨by decide, _, rfl, ⟨rfl, mX2_findFlawBeside, rfl, xtc3 233 rfl rfl, xtc3 235 rfl rfl, xtb 8 (by decide +kernel) rfl, (RX2, TX2, 11), rfl, rfl⟩⟩
theorem lk_516 : xLq RX2 (3, 1, 2, 10, 88) := ⟨by decide, _, rfl, ⟨rfl, (RX2, TX2, 11), rfl, by decide, xtc2 10 rfl rfl⟩⟩
theorem lk_517 : xLq RX2 (3, 1, 9, 4, 91) := ⟨by decide, _, rfl, ⟨rfl, (RX9, TX9, 14), rfl, by decide, xtc1 143 rfl rfl⟩⟩
theorem lk_518 : xLq RX2 (3, 13, 241, 8, 94) := ⟨by decide, _, rfl, ⟨rfl, mX1_copy, rfl, xtc3 237 rfl rfl, xtc3 238 rfl rfl, xtc3 239 rfl rfl, (RX1, TX1, 10), rfl, rfl⟩⟩
theorem lk_519 : xLq RX2 (3, 1, 9, 5, 98) := ⟨by decide, _, rfl, ⟨rfl, (RX9, TX9, 14), rfl, by decide, xtc1 147 rfl rfl⟩⟩
theorem lk_520 : xLq RX2 (3, 13, 283, 40, 102) := ⟨by decide, _, rfl, ⟨rfl, mX5_clear, rfl, xtc4 8 rfl rfl, xtc3 74 rfl rfl, xtc3 75 rfl rfl, (RX5, TX5, 4), rfl, rfl⟩⟩
theorem lk_521 : xLq RX2 (3, 1, 9, 8, 105) := ⟨by decide, _, rfl, ⟨rfl, (RX9, TX9, 14), rfl, by decide, xtc1 155 rfl rfl⟩⟩
theorem lk_522 : xLq RX2 (2, 72, 0, 0, 151) := ⟨by decide, _, rfl, ⟨rfl, "slide", rfl, List.mem_of_getElem? (i := 780) (by decide +kernel)⟩⟩
theorem lk_523 : xLq RX2 (3, 13, 318, 64, 135) := ⟨by decide, _, rfl, ⟨rfl, mX8_isWord, rfl, xtc3 110 rfl rfl, xtc3 111 rfl rfl, xtc3 112 rfl rfl, (RX8, TX8, 6), rfl, rfl⟩⟩
theorem lk_524 : xLq RX2 (3, 59, 2, 6, 153) := ⟨by decide, _, rfl, ⟨rfl, (RX2, TX2, 11), .boolean, rfl, by decide, xtc2 6 rfl rfl, rfl, (fun h => by cases h), by decide +kernel, rfl⟩⟩
theorem lk_525 : xLq RX2 (3, 1, 2, 6, 153) := ⟨by decide, _, rfl, ⟨rfl, (RX2, TX2, 11), rfl, by decide, xtc2 6 rfl rfl⟩⟩
theorem lk_526 : xLq RX2 (2, 72, 1, 0, 156) := ⟨by decide, _, rfl, ⟨rfl, "hold", rfl, List.mem_of_getElem? (i := 781) (by decide +kernel)⟩⟩
theorem lk_527 : xLq RX2 (3, 13, 312, 64, 112) := ⟨by decide, _, rfl, ⟨rfl, mX8_advance, rfl, xtc3 168 rfl rfl, xtc3 85 rfl rfl, xtc3 86 rfl rfl, (RX8, TX8, 6), rfl, rfl⟩⟩
theorem lk_528 : xLq RX2 (3, 13, 253, 16, 108) := ⟨by decide, _, rfl, ⟨rfl, mX2_sortOfWord, rfl, xtc3 105 rfl rfl, xtc3 107 rfl rfl, xtb 2 (by decide +kernel) rfl, (RX2, TX2, 11), rfl, rfl⟩⟩
theorem lk_529 : xLq RX2 (3, 1, 8, 5, 118) := ⟨by decide, _, rfl, ⟨rfl, (RX8, TX8, 6), rfl, by decide, xtc1 224 rfl rfl⟩⟩
theorem lk_530 : xLq RX2 (3, 13, 251, 16, 121) := ⟨by decide, _, rfl, ⟨rfl, mX2_readGlue, rfl, xtc3 171 rfl rfl, xtc3 173 rfl rfl, xtb 3 (by decide +kernel) rfl, (RX2, TX2, 11), rfl, rfl⟩⟩
theorem lk_531 : xLq RX2 (3, 13, 316, 64, 124) := ⟨by decide, _, rfl, ⟨rfl, mX8_isSign, rfl, xtc3 177 rfl rfl, xtc3 178 rfl rfl, xtc3 179 rfl rfl, (RX8, TX8, 6), rfl, rfl⟩⟩
theorem lk_532 : xLq RX2 (3, 13, 247, 16, 128) := ⟨by decide, _, rfl, ⟨rfl, mX2_isFine, rfl, xtc3 181 rfl rfl, xtc3 183 rfl rfl, xtb 4 (by decide +kernel) rfl, (RX2, TX2, 11), rfl, rfl⟩⟩
theorem lk_533 : xLq RX2 (3, 13, 254, 16, 132) := ⟨by decide, _, rfl, ⟨rfl, mX2_take, rfl, xtc3 212 rfl rfl, xtc3 214 rfl rfl, xtb 7 (by decide +kernel) rfl, (RX2, TX2, 11), rfl, rfl⟩⟩
theorem lk_534 : xLq RX2 (2, 72, 2, 0, 133) := ⟨by decide, _, rfl, ⟨rfl, "layer", rfl, List.mem_of_getElem? (i := 714) (by decide +kernel)⟩⟩
theorem lk_535 : xLq RX2 (2, 72, 3, 0, 139) := ⟨by decide, _, rfl, ⟨rfl, "life", rfl, List.mem_of_getElem? (i := 767) (by decide +kernel)⟩⟩
theorem lk_536 : xLq RX2 (2, 72, 4, 0, 141) := ⟨by decide, _, rfl, ⟨rfl, "folds", rfl, List.mem_of_getElem? (i := 768) (by decide +kernel)⟩⟩
theorem lk_537 : xLq RX2 (2, 72, 5, 0, 143) := ⟨by decide, _, rfl, ⟨rfl, "panel", rfl, List.mem_of_getElem? (i := 769) (by decide +kernel)⟩⟩
theorem lk_538 : xLq RX2 (2, 72, 6, 0, 145) := ⟨by decide, _, rfl, ⟨rfl, "flaw", rfl, List.mem_of_getElem? (i := 770) (by decide +kernel)⟩⟩
theorem lk_539 : xLq RX2 (2, 72, 7, 0, 147) := ⟨by decide, _, rfl, ⟨rfl, "sheet", rfl, List.mem_of_getElem? (i := 771) (by decide +kernel)⟩⟩
theorem lk_540 : xLq RX2 (2, 72, 8, 0, 149) := ⟨by decide, _, rfl, ⟨rfl, "net", rfl, List.mem_of_getElem? (i := 772) (by decide +kernel)⟩⟩
theorem lk_541 : xLq RX2 (3, 14, 1, 5, 192) := ⟨by decide, _, rfl, ⟨rfl, (RX1, TX1, 10), .int, rfl, by decide, xtc1 88 rfl rfl, rfl, (fun h => by cases h), by decide +kernel, rfl⟩⟩
theorem lk_542 : xLq RX2 (3, 14, 1, 6, 195) := ⟨by decide, _, rfl, ⟨rfl, (RX1, TX1, 10), .int, rfl, by decide, xtc1 92 rfl rfl, rfl, (fun h => by cases h), by decide +kernel, rfl⟩⟩
theorem lk_543 : xLq RX2 (3, 14, 1, 7, 198) := ⟨by decide, _, rfl, ⟨rfl, (RX1, TX1, 10), .int, rfl, by decide, xtc1 97 rfl rfl, rfl, (fun h => by cases h), by decide +kernel, rfl⟩⟩
theorem lk_544 : xLq RX2 (3, 14, 1, 8, 201) := ⟨by decide, _, rfl, ⟨rfl, (RX1, TX1, 10), .int, rfl, by decide, xtc1 102 rfl rfl, rfl, (fun h => by cases h), by decide +kernel, rfl⟩⟩
theorem lk_545 : xLq RX2 (3, 13, 286, 40, 204) := ⟨by decide, _, rfl, ⟨rfl, mX5_grow, rfl, xtc3 216 rfl rfl, xtc3 217 rfl rfl, xtc3 218 rfl rfl, (RX5, TX5, 4), rfl, rfl⟩⟩
theorem lk_546 : xLq RX2 (3, 13, 290, 40, 207) := ⟨by decide, _, rfl, ⟨rfl, mX5_put, rfl, xtc3 221 rfl rfl, xtc3 222 rfl rfl, xtc3 223 rfl rfl, (RX5, TX5, 4), rfl, rfl⟩⟩
theorem lk_547 : xLq RX3 (3, 1, 3, 0, 21) := ⟨by decide, _, rfl, ⟨rfl, (RX3, TX3, 6), rfl, by decide, xtc2 163 rfl rfl⟩⟩
theorem lk_548 : xLq RX3 (3, 1, 9, 8, 38) := ⟨by decide, _, rfl, ⟨rfl, (RX9, TX9, 14), rfl, by decide, xtc1 156 rfl rfl⟩⟩
theorem lk_549 : xLq RX3 (3, 13, 285, 40, 54) := ⟨by decide, _, rfl, ⟨rfl, mX5_get, rfl, xtc5 76 rfl rfl, xtc3 202 rfl rfl, xtc3 203 rfl rfl, (RX5, TX5, 4), rfl, rfl⟩⟩
theorem lk_550 : xLq RX3 (3, 63, 0, 0, 58) := ⟨by decide, _, rfl, ⟨rfl, xtc5 77 rfl rfl⟩⟩
theorem lk_551 : xLq RX3 (3, 62, 0, 0, 63) := ⟨by decide, _, rfl, ⟨rfl, xtc5 78 rfl rfl⟩⟩
theorem lk_552 : xLq RX3 (3, 1, 3, 1, 9) := ⟨by decide, _, rfl, ⟨rfl, (RX3, TX3, 6), rfl, by decide, xtc2 164 rfl rfl⟩⟩
theorem lk_553 : xLq RX3 (3, 1, 9, 4, 66) := ⟨by decide, _, rfl, ⟨rfl, (RX9, TX9, 14), rfl, by decide, xtc1 145 rfl rfl⟩⟩
theorem lk_554 : xLq RX3 (3, 1, 1, 8, 73) := ⟨by decide, _, rfl, ⟨rfl, (RX1, TX1, 10), rfl, by decide, xtc1 101 rfl rfl⟩⟩
theorem lk_555 : xLq RX3 (3, 1, 1, 7, 70) := ⟨by decide, _, rfl, ⟨rfl, (RX1, TX1, 10), rfl, by decide, xtc1 96 rfl rfl⟩⟩
theorem lk_556 : xLq RX3 (3, 13, 258, 24, 87) := ⟨by decide, _, rfl, ⟨rfl, mX3_dampAt, rfl, xtc5 110 rfl rfl, xtc5 112 rfl rfl, xtb 30 (by decide +kernel) rfl, (RX3, TX3, 6), rfl, rfl⟩⟩
theorem lk_557 : xLq RX3 (3, 1, 3, 3, 18) := ⟨by decide, _, rfl, ⟨rfl, (RX3, TX3, 6), rfl, by decide, xtc2 167 rfl rfl⟩⟩
theorem lk_558 : xLq RX3 (3, 1, 3, 2, 15) := ⟨by decide, _, rfl, ⟨rfl, (RX3, TX3, 6), rfl, by decide, xtc2 165 rfl rfl⟩⟩
theorem lk_559 : xLq RX3 (3, 58, 0, 0, 90) := ⟨by decide, _, rfl, ⟨rfl, xtc5 114 rfl rfl⟩⟩
theorem lk_560 : xLq RX3 (3, 59, 3, 4, 25) := ⟨by decide, _, rfl, ⟨rfl, (RX3, TX3, 6), .boolean, rfl, by decide, xtc2 168 rfl rfl, rfl, (fun h => by cases h), by decide +kernel, rfl⟩⟩
theorem lk_561 : xLq RX3 (3, 59, 3, 5, 29) := ⟨by decide, _, rfl, ⟨rfl, (RX3, TX3, 6), .boolean, rfl, by decide, xtc2 169 rfl rfl, rfl, (fun h => by cases h), by decide +kernel, rfl⟩⟩
theorem lk_562 : xLq RX3 (3, 25, 0, 0, 1) := ⟨by decide, _, rfl, ⟨rfl, xtc2 162 rfl rfl⟩⟩
theorem lk_563 : xLq RX3 (3, 61, 3, 1, 9) := ⟨by decide, _, rfl, ⟨rfl, (RX3, TX3, 6), .array .int, rfl, by decide, xtc2 164 rfl rfl, rfl, (fun _ => rfl), by decide +kernel, Or.inr ⟨_, rfl⟩⟩⟩
theorem lk_564 : xLq RX3 (3, 61, 3, 2, 15) := ⟨by decide, _, rfl, ⟨rfl, (RX3, TX3, 6), .array .int, rfl, by decide, xtc2 165 rfl rfl, rfl, (fun _ => rfl), by decide +kernel, Or.inr ⟨_, rfl⟩⟩⟩
theorem lk_565 : xLq RX3 (3, 61, 3, 3, 18) := ⟨by decide, _, rfl, ⟨rfl, (RX3, TX3, 6), .array .int, rfl, by decide, xtc2 167 rfl rfl, rfl, (fun _ => rfl), by decide +kernel, Or.inr ⟨_, rfl⟩⟩⟩
theorem lk_566 : xLq RX3 (3, 61, 3, 0, 21) := ⟨by decide, _, rfl, ⟨rfl, (RX3, TX3, 6), .object "BentScreens$Told", rfl, by decide, xtc2 163 rfl rfl, rfl, (fun _ => rfl), by decide +kernel, Or.inl ⟨_, rfl⟩⟩⟩
theorem lk_567 : xLq RX3 (3, 13, 263, 24, 76) := ⟨by decide, _, rfl, ⟨rfl, mX3_leftOf, rfl, xtc5 93 rfl rfl, xtc5 82 rfl rfl, xtc5 83 rfl rfl, (RX3, TX3, 6), rfl, rfl⟩⟩
theorem lk_568 : xLq RX3 (3, 1, 3, 4, 25) := ⟨by decide, _, rfl, ⟨rfl, (RX3, TX3, 6), rfl, by decide, xtc2 168 rfl rfl⟩⟩
theorem lk_569 : xLq RX3 (3, 13, 1, 2, 32) := ⟨by decide, _, rfl, ⟨rfl, mJ7_fill_53178, rfl, xtc5 71 rfl rfl, xtc4 235 rfl rfl⟩⟩
theorem lk_570 : xLq RX3 (3, 1, 5, 3, 44) := ⟨by decide, _, rfl, ⟨rfl, (RX5, TX5, 4), rfl, by decide, xtc1 57 rfl rfl⟩⟩
theorem lk_571 : xLq RX3 (3, 13, 255, 24, 50) := ⟨by decide, _, rfl, ⟨rfl, mX3_addPicture, rfl, xtc5 72 rfl rfl, xtc5 74 rfl rfl, xtb 28 (by decide +kernel) rfl, (RX3, TX3, 6), rfl, rfl⟩⟩
theorem lk_572 : xLq RX3 (3, 1, 3, 5, 29) := ⟨by decide, _, rfl, ⟨rfl, (RX3, TX3, 6), rfl, by decide, xtc2 169 rfl rfl⟩⟩
theorem lk_573 : xLq RX3 (3, 1, 9, 9, 80) := ⟨by decide, _, rfl, ⟨rfl, (RX9, TX9, 14), rfl, by decide, xtc1 159 rfl rfl⟩⟩
theorem lk_574 : xLq RX3 (3, 13, 257, 24, 83) := ⟨by decide, _, rfl, ⟨rfl, mX3_creepOn, rfl, xtc5 106 rfl rfl, xtc5 108 rfl rfl, xtb 29 (by decide +kernel) rfl, (RX3, TX3, 6), rfl, rfl⟩⟩
theorem lk_575 : xLq RX3 (3, 13, 256, 24, 100) := ⟨by decide, _, rfl, ⟨rfl, mX3_agingIn, rfl, xtc5 151 rfl rfl, xtc5 153 rfl rfl, xtb 35 (by decide +kernel) rfl, (RX3, TX3, 6), rfl, rfl⟩⟩
theorem lk_576 : xLq RX3 (3, 13, 267, 24, 96) := ⟨by decide, _, rfl, ⟨rfl, mX3_roundsOfLamp, rfl, xtc5 147 rfl rfl, xtc5 149 rfl rfl, xtb 34 (by decide +kernel) rfl, (RX3, TX3, 6), rfl, rfl⟩⟩
theorem lk_577 : xLq RX4 (3, 1, 4, 1, 11) := ⟨by decide, _, rfl, ⟨rfl, (RX4, TX4, 12), rfl, by decide, xtc2 215 rfl rfl⟩⟩
theorem lk_578 : xLq RX4 (3, 1, 4, 2, 15) := ⟨by decide, _, rfl, ⟨rfl, (RX4, TX4, 12), rfl, by decide, xtc2 216 rfl rfl⟩⟩
theorem lk_579 : xLq RX4 (3, 13, 1, 2, 94) := ⟨by decide, _, rfl, ⟨rfl, mJ7_fill_53178, rfl, xtc6 96 rfl rfl, xtc4 235 rfl rfl⟩⟩
theorem lk_580 : xLq RX4 (3, 1, 4, 3, 18) := ⟨by decide, _, rfl, ⟨rfl, (RX4, TX4, 12), rfl, by decide, xtc2 217 rfl rfl⟩⟩
theorem lk_581 : xLq RX4 (3, 13, 282, 34, 54) := ⟨by decide, _, rfl, ⟨rfl, mX4_unitAt, rfl, xtc6 38 rfl rfl, xtc6 39 rfl rfl⟩⟩
theorem lk_582 : xLq RX4 (3, 59, 4, 9, 25) := ⟨by decide, _, rfl, ⟨rfl, (RX4, TX4, 12), .boolean, rfl, by decide, xtc2 227 rfl rfl, rfl, (fun h => by cases h), by decide +kernel, rfl⟩⟩
theorem lk_583 : xLq RX4 (3, 59, 4, 10, 29) := ⟨by decide, _, rfl, ⟨rfl, (RX4, TX4, 12), .boolean, rfl, by decide, xtc2 228 rfl rfl, rfl, (fun h => by cases h), by decide +kernel, rfl⟩⟩
theorem lk_584 : xLq RX4 (3, 59, 4, 11, 32) := ⟨by decide, _, rfl, ⟨rfl, (RX4, TX4, 12), .boolean, rfl, by decide, xtc2 229 rfl rfl, rfl, (fun h => by cases h), by decide +kernel, rfl⟩⟩
theorem lk_585 : xLq RX4 (3, 25, 0, 0, 3) := ⟨by decide, _, rfl, ⟨rfl, xtc2 213 rfl rfl⟩⟩
theorem lk_586 : xLq RX4 (3, 61, 4, 1, 11) := ⟨by decide, _, rfl, ⟨rfl, (RX4, TX4, 12), .array .int, rfl, by decide, xtc2 215 rfl rfl, rfl, (fun _ => rfl), by decide +kernel, Or.inr ⟨_, rfl⟩⟩⟩
theorem lk_587 : xLq RX4 (3, 61, 4, 2, 15) := ⟨by decide, _, rfl, ⟨rfl, (RX4, TX4, 12), .array .int, rfl, by decide, xtc2 216 rfl rfl, rfl, (fun _ => rfl), by decide +kernel, Or.inr ⟨_, rfl⟩⟩⟩
theorem lk_588 : xLq RX4 (3, 61, 4, 3, 18) := ⟨by decide, _, rfl, ⟨rfl, (RX4, TX4, 12), .array .int, rfl, by decide, xtc2 217 rfl rfl, rfl, (fun _ => rfl), by decide +kernel, Or.inr ⟨_, rfl⟩⟩⟩
theorem lk_589 : xLq RX4 (3, 61, 4, 0, 21) := ⟨by decide, _, rfl, ⟨rfl, (RX4, TX4, 12), .object "BentScreens$Rows", rfl, by decide, xtc2 214 rfl rfl, rfl, (fun _ => rfl), by decide +kernel, Or.inl ⟨_, rfl⟩⟩⟩
theorem lk_590 : xLq RX4 (3, 1, 4, 0, 21) := ⟨by decide, _, rfl, ⟨rfl, (RX4, TX4, 12), rfl, by decide, xtc2 214 rfl rfl⟩⟩
theorem lk_591 : xLq RX4 (3, 1, 5, 3, 43) := ⟨by decide, _, rfl, ⟨rfl, (RX5, TX5, 4), rfl, by decide, xtc1 55 rfl rfl⟩⟩
theorem lk_592 : xLq RX4 (3, 1, 4, 5, 71) := ⟨by decide, _, rfl, ⟨rfl, (RX4, TX4, 12), rfl, by decide, xtc2 220 rfl rfl⟩⟩
theorem lk_593 : xLq RX4 (3, 13, 270, 34, 57) := ⟨by decide, _, rfl, ⟨rfl, mX4_bitOf, rfl, xtc6 41 rfl rfl, xtc6 42 rfl rfl⟩⟩
theorem lk_594 : xLq RX4 (3, 1, 4, 9, 25) := ⟨by decide, _, rfl, ⟨rfl, (RX4, TX4, 12), rfl, by decide, xtc2 227 rfl rfl⟩⟩
theorem lk_595 : xLq RX4 (3, 14, 4, 4, 35) := ⟨by decide, _, rfl, ⟨rfl, (RX4, TX4, 12), .int, rfl, by decide, xtc2 218 rfl rfl, rfl, (fun h => by cases h), by decide +kernel, rfl⟩⟩
theorem lk_596 : xLq RX4 (3, 13, 281, 32, 39) := ⟨by decide, _, rfl, ⟨rfl, mX4_testsAgainst, rfl, xtc6 33 rfl rfl, xtc6 35 rfl rfl, xtb 44 (by decide +kernel) rfl, (RX4, TX4, 12), rfl, rfl⟩⟩
theorem lk_597 : xLq RX4 (3, 1, 4, 4, 35) := ⟨by decide, _, rfl, ⟨rfl, (RX4, TX4, 12), rfl, by decide, xtc2 218 rfl rfl⟩⟩
theorem lk_598 : xLq RX4 (3, 1, 4, 11, 32) := ⟨by decide, _, rfl, ⟨rfl, (RX4, TX4, 12), rfl, by decide, xtc2 229 rfl rfl⟩⟩
theorem lk_599 : xLq RX4 (3, 14, 4, 8, 81) := ⟨by decide, _, rfl, ⟨rfl, (RX4, TX4, 12), .int, rfl, by decide, xtc2 225 rfl rfl, rfl, (fun h => by cases h), by decide +kernel, rfl⟩⟩
theorem lk_600 : xLq RX4 (3, 13, 271, 32, 84) := ⟨by decide, _, rfl, ⟨rfl, mX4_countTries, rfl, xtc6 92 rfl rfl, xtc6 94 rfl rfl, xtb 46 (by decide +kernel) rfl, (RX4, TX4, 12), rfl, rfl⟩⟩
theorem lk_601 : xLq RX4 (3, 62, 0, 0, 68) := ⟨by decide, _, rfl, ⟨rfl, xtc6 60 rfl rfl⟩⟩
theorem lk_602 : xLq RX4 (3, 1, 4, 8, 81) := ⟨by decide, _, rfl, ⟨rfl, (RX4, TX4, 12), rfl, by decide, xtc2 225 rfl rfl⟩⟩
theorem lk_603 : xLq RX4 (3, 14, 4, 6, 88) := ⟨by decide, _, rfl, ⟨rfl, (RX4, TX4, 12), .int, rfl, by decide, xtc2 221 rfl rfl, rfl, (fun h => by cases h), by decide +kernel, rfl⟩⟩
theorem lk_604 : xLq RX4 (3, 14, 4, 7, 91) := ⟨by decide, _, rfl, ⟨rfl, (RX4, TX4, 12), .int, rfl, by decide, xtc2 223 rfl rfl, rfl, (fun h => by cases h), by decide +kernel, rfl⟩⟩
theorem lk_605 : xLq RX4 (3, 1, 4, 10, 29) := ⟨by decide, _, rfl, ⟨rfl, (RX4, TX4, 12), rfl, by decide, xtc2 228 rfl rfl⟩⟩
theorem lk_606 : xLq RX4 (3, 14, 4, 5, 71) := ⟨by decide, _, rfl, ⟨rfl, (RX4, TX4, 12), .int, rfl, by decide, xtc2 220 rfl rfl, rfl, (fun h => by cases h), by decide +kernel, rfl⟩⟩
theorem lk_607 : xLq RX4 (3, 13, 0, 2, 74) := ⟨by decide, _, rfl, ⟨rfl, mJ6_bitCount_0f7a4, rfl, xtc6 75 rfl rfl, xtc5 54 rfl rfl⟩⟩
theorem lk_608 : xLq RX4 (3, 13, 269, 32, 77) := ⟨by decide, _, rfl, ⟨rfl, mX4_barsAll, rfl, xtc6 76 rfl rfl, xtc6 78 rfl rfl, xtb 45 (by decide +kernel) rfl, (RX4, TX4, 12), rfl, rfl⟩⟩
theorem lk_609 : xLq RX4 (2, 35, 2147483647, 0, 62) := ⟨by decide, _, rfl, ⟨rfl, by decide, xtc6 65 rfl rfl⟩⟩
theorem lk_610 : xLq RX4 (3, 63, 0, 0, 63) := ⟨by decide, _, rfl, ⟨rfl, xtc6 66 rfl rfl⟩⟩
theorem lk_611 : xLq RX4 (3, 13, 285, 40, 50) := ⟨by decide, _, rfl, ⟨rfl, mX5_get, rfl, xtc6 37 rfl rfl, xtc3 202 rfl rfl, xtc3 203 rfl rfl, (RX5, TX5, 4), rfl, rfl⟩⟩
theorem lk_612 : xLq RX5 (3, 14, 5, 3, 22) := ⟨by decide, _, rfl, ⟨rfl, (RX5, TX5, 4), .int, rfl, by decide, xtc1 51 rfl rfl, rfl, (fun h => by cases h), by decide +kernel, rfl⟩⟩
theorem lk_613 : xLq RX5 (3, 1, 5, 0, 9) := ⟨by decide, _, rfl, ⟨rfl, (RX5, TX5, 4), rfl, by decide, xtc1 48 rfl rfl⟩⟩
theorem lk_614 : xLq RX5 (3, 1, 5, 1, 15) := ⟨by decide, _, rfl, ⟨rfl, (RX5, TX5, 4), rfl, by decide, xtc1 49 rfl rfl⟩⟩
theorem lk_615 : xLq RX5 (3, 1, 5, 3, 22) := ⟨by decide, _, rfl, ⟨rfl, (RX5, TX5, 4), rfl, by decide, xtc1 51 rfl rfl⟩⟩
theorem lk_616 : xLq RX5 (3, 1, 5, 2, 18) := ⟨by decide, _, rfl, ⟨rfl, (RX5, TX5, 4), rfl, by decide, xtc1 50 rfl rfl⟩⟩
theorem lk_617 : xLq RX5 (3, 58, 0, 0, 33) := ⟨by decide, _, rfl, ⟨rfl, xtc4 5 rfl rfl⟩⟩
theorem lk_618 : xLq RX5 (3, 13, 289, 40, 29) := ⟨by decide, _, rfl, ⟨rfl, mX5_isFull, rfl, xtc3 220 rfl rfl, xtc3 194 rfl rfl, xtc3 195 rfl rfl, (RX5, TX5, 4), rfl, rfl⟩⟩
theorem lk_619 : xLq RX5 (3, 25, 0, 0, 3) := ⟨by decide, _, rfl, ⟨rfl, xtc1 47 rfl rfl⟩⟩
theorem lk_620 : xLq RX5 (3, 22, 5, 0, 9) := ⟨by decide, _, rfl, ⟨rfl, (RX5, TX5, 4), .int, rfl, by decide, xtc1 48 rfl rfl, rfl, (fun _ => rfl), by decide +kernel, rfl⟩⟩
theorem lk_621 : xLq RX5 (3, 22, 5, 1, 15) := ⟨by decide, _, rfl, ⟨rfl, (RX5, TX5, 4), .int, rfl, by decide, xtc1 49 rfl rfl, rfl, (fun _ => rfl), by decide +kernel, rfl⟩⟩
theorem lk_622 : xLq RX5 (3, 61, 5, 2, 18) := ⟨by decide, _, rfl, ⟨rfl, (RX5, TX5, 4), .array .int, rfl, by decide, xtc1 50 rfl rfl, rfl, (fun _ => rfl), by decide +kernel, Or.inr ⟨_, rfl⟩⟩⟩
theorem lk_623 : xLq RX5 (3, 13, 287, 40, 25) := ⟨by decide, _, rfl, ⟨rfl, mX5_has, rfl, xtc3 225 rfl rfl, xtc3 226 rfl rfl, xtc3 227 rfl rfl, (RX5, TX5, 4), rfl, rfl⟩⟩
theorem lk_624 : xLq RX6 (3, 25, 0, 0, 3) := ⟨by decide, _, rfl, ⟨rfl, xtc2 39 rfl rfl⟩⟩
theorem lk_625 : xLq RX6 (3, 24, 5, 0, 9) := ⟨by decide, _, rfl, ⟨rfl, (RX5, TX5, 4), rfl, xtc2 40 rfl rfl, xtc1 43 rfl rfl, xtc1 4 rfl rfl⟩⟩
theorem lk_626 : xLq RX6 (3, 13, 288, 44, 13) := ⟨by decide, _, rfl, ⟨rfl, mX5_init, rfl, xtc2 41 rfl rfl, rfl, rfl, rfl, xtc1 45 rfl rfl⟩⟩
theorem lk_627 : xLq RX6 (3, 61, 6, 2, 16) := ⟨by decide, _, rfl, ⟨rfl, (RX6, TX6, 6), .object "BentScreens$Rows", rfl, by decide, xtc2 46 rfl rfl, rfl, (fun _ => rfl), by decide +kernel, Or.inl ⟨_, rfl⟩⟩⟩
theorem lk_628 : xLq RX6 (3, 61, 6, 3, 20) := ⟨by decide, _, rfl, ⟨rfl, (RX6, TX6, 6), .object "BentScreens$Rows", rfl, by decide, xtc2 47 rfl rfl, rfl, (fun _ => rfl), by decide +kernel, Or.inl ⟨_, rfl⟩⟩⟩
theorem lk_629 : xLq RX6 (3, 61, 6, 0, 23) := ⟨by decide, _, rfl, ⟨rfl, (RX6, TX6, 6), .object "BentScreens$Told", rfl, by decide, xtc2 44 rfl rfl, rfl, (fun _ => rfl), by decide +kernel, Or.inl ⟨_, rfl⟩⟩⟩
theorem lk_630 : xLq RX6 (3, 24, 8, 0, 27) := ⟨by decide, _, rfl, ⟨rfl, (RX8, TX8, 6), rfl, xtc2 42 rfl rfl, xtc1 210 rfl rfl, xtc1 6 rfl rfl⟩⟩
theorem lk_631 : xLq RX6 (3, 1, 9, 0, 29) := ⟨by decide, _, rfl, ⟨rfl, (RX9, TX9, 14), rfl, by decide, xtc1 131 rfl rfl⟩⟩
theorem lk_632 : xLq RX6 (3, 13, 313, 68, 35) := ⟨by decide, _, rfl, ⟨rfl, mX8_init, rfl, xtc2 43 rfl rfl, rfl, rfl, rfl, xtc1 212 rfl rfl⟩⟩
theorem lk_633 : xLq RX6 (3, 61, 6, 1, 38) := ⟨by decide, _, rfl, ⟨rfl, (RX6, TX6, 6), .object "BentScreens$Tokens", rfl, by decide, xtc2 45 rfl rfl, rfl, (fun _ => rfl), by decide +kernel, Or.inl ⟨_, rfl⟩⟩⟩
theorem lk_634 : xLq RX6 (3, 1, 6, 1, 38) := ⟨by decide, _, rfl, ⟨rfl, (RX6, TX6, 6), rfl, by decide, xtc2 45 rfl rfl⟩⟩
theorem lk_635 : xLq RX6 (2, 72, 9, 0, 138) := ⟨by decide, _, rfl, ⟨rfl, "slides", rfl, List.mem_of_getElem? (i := 1458) (by decide +kernel)⟩⟩
theorem lk_636 : xLq RX6 (3, 13, 318, 64, 97) := ⟨by decide, _, rfl, ⟨rfl, mX8_isWord, rfl, xtc6 118 rfl rfl, xtc3 111 rfl rfl, xtc3 112 rfl rfl, (RX8, TX8, 6), rfl, rfl⟩⟩
theorem lk_637 : xLq RX6 (2, 72, 10, 0, 140) := ⟨by decide, _, rfl, ⟨rfl, "whole", rfl, List.mem_of_getElem? (i := 1459) (by decide +kernel)⟩⟩
theorem lk_638 : xLq RX6 (2, 72, 11, 0, 142) := ⟨by decide, _, rfl, ⟨rfl, "layers", rfl, List.mem_of_getElem? (i := 1460) (by decide +kernel)⟩⟩
theorem lk_639 : xLq RX6 (2, 72, 12, 0, 144) := ⟨by decide, _, rfl, ⟨rfl, "least", rfl, List.mem_of_getElem? (i := 1461) (by decide +kernel)⟩⟩
theorem lk_640 : xLq RX6 (2, 72, 13, 0, 146) := ⟨by decide, _, rfl, ⟨rfl, "rows", rfl, List.mem_of_getElem? (i := 1462) (by decide +kernel)⟩⟩
theorem lk_641 : xLq RX6 (2, 72, 14, 0, 148) := ⟨by decide, _, rfl, ⟨rfl, "fed", rfl, List.mem_of_getElem? (i := 1463) (by decide +kernel)⟩⟩
theorem lk_642 : xLq RX6 (2, 72, 15, 0, 150) := ⟨by decide, _, rfl, ⟨rfl, "darks", rfl, List.mem_of_getElem? (i := 1464) (by decide +kernel)⟩⟩
theorem lk_643 : xLq RX6 (2, 72, 16, 0, 152) := ⟨by decide, _, rfl, ⟨rfl, "worth", rfl, List.mem_of_getElem? (i := 1465) (by decide +kernel)⟩⟩
theorem lk_644 : xLq RX6 (2, 72, 17, 0, 154) := ⟨by decide, _, rfl, ⟨rfl, "cracks", rfl, List.mem_of_getElem? (i := 1466) (by decide +kernel)⟩⟩
theorem lk_645 : xLq RX6 (2, 72, 18, 0, 156) := ⟨by decide, _, rfl, ⟨rfl, "kept", rfl, List.mem_of_getElem? (i := 1467) (by decide +kernel)⟩⟩
theorem lk_646 : xLq RX6 (2, 72, 19, 0, 158) := ⟨by decide, _, rfl, ⟨rfl, "day", rfl, List.mem_of_getElem? (i := 1468) (by decide +kernel)⟩⟩
theorem lk_647 : xLq RX6 (3, 1, 6, 4, 45) := ⟨by decide, _, rfl, ⟨rfl, (RX6, TX6, 6), rfl, by decide, xtc2 48 rfl rfl⟩⟩
theorem lk_648 : xLq RX6 (3, 14, 6, 4, 45) := ⟨by decide, _, rfl, ⟨rfl, (RX6, TX6, 6), .int, rfl, by decide, xtc2 48 rfl rfl, rfl, (fun h => by cases h), by decide +kernel, rfl⟩⟩
theorem lk_649 : xLq RX6 (3, 1, 8, 3, 63) := ⟨by decide, _, rfl, ⟨rfl, (RX8, TX8, 6), rfl, by decide, xtc1 220 rfl rfl⟩⟩
theorem lk_650 : xLq RX6 (3, 14, 6, 5, 69) := ⟨by decide, _, rfl, ⟨rfl, (RX6, TX6, 6), .int, rfl, by decide, xtc2 49 rfl rfl, rfl, (fun h => by cases h), by decide +kernel, rfl⟩⟩
theorem lk_651 : xLq RX6 (3, 1, 6, 2, 16) := ⟨by decide, _, rfl, ⟨rfl, (RX6, TX6, 6), rfl, by decide, xtc2 46 rfl rfl⟩⟩
theorem lk_652 : xLq RX6 (3, 13, 289, 40, 85) := ⟨by decide, _, rfl, ⟨rfl, mX5_isFull, rfl, xtc6 111 rfl rfl, xtc3 194 rfl rfl, xtc3 195 rfl rfl, (RX5, TX5, 4), rfl, rfl⟩⟩
theorem lk_653 : xLq RX6 (3, 13, 293, 48, 88) := ⟨by decide, _, rfl, ⟨rfl, mX6_noteTooMany, rfl, xtc6 112 rfl rfl, xtc6 114 rfl rfl, xtb 48 (by decide +kernel) rfl, (RX6, TX6, 6), rfl, rfl⟩⟩
theorem lk_654 : xLq RX6 (3, 13, 286, 40, 91) := ⟨by decide, _, rfl, ⟨rfl, mX5_grow, rfl, xtc6 116 rfl rfl, xtc3 217 rfl rfl, xtc3 218 rfl rfl, (RX5, TX5, 4), rfl, rfl⟩⟩
theorem lk_655 : xLq RX6 (2, 72, 20, 0, 95) := ⟨by decide, _, rfl, ⟨rfl, "if", rfl, List.mem_of_getElem? (i := 1442) (by decide +kernel)⟩⟩
theorem lk_656 : xLq RX6 (3, 13, 297, 48, 101) := ⟨by decide, _, rfl, ⟨rfl, mX6_readTests, rfl, xtc6 119 rfl rfl, xtc6 121 rfl rfl, xtb 49 (by decide +kernel) rfl, (RX6, TX6, 6), rfl, rfl⟩⟩
theorem lk_657 : xLq RX6 (3, 13, 298, 48, 105) := ⟨by decide, _, rfl, ⟨rfl, mX6_verbOfWord, rfl, xtc6 147 rfl rfl, xtc6 149 rfl rfl, xtb 52 (by decide +kernel) rfl, (RX6, TX6, 6), rfl, rfl⟩⟩
theorem lk_658 : xLq RX6 (3, 13, 312, 64, 108) := ⟨by decide, _, rfl, ⟨rfl, mX8_advance, rfl, xtc6 123 rfl rfl, xtc3 85 rfl rfl, xtc3 86 rfl rfl, (RX8, TX8, 6), rfl, rfl⟩⟩
theorem lk_659 : xLq RX6 (3, 1, 8, 2, 56) := ⟨by decide, _, rfl, ⟨rfl, (RX8, TX8, 6), rfl, by decide, xtc1 217 rfl rfl⟩⟩
theorem lk_660 : xLq RX6 (3, 1, 8, 5, 111) := ⟨by decide, _, rfl, ⟨rfl, (RX8, TX8, 6), rfl, by decide, xtc1 225 rfl rfl⟩⟩
theorem lk_661 : xLq RX6 (3, 13, 316, 64, 114) := ⟨by decide, _, rfl, ⟨rfl, mX8_isSign, rfl, xtc6 144 rfl rfl, xtc3 178 rfl rfl, xtc3 179 rfl rfl, (RX8, TX8, 6), rfl, rfl⟩⟩
theorem lk_662 : xLq RX6 (3, 13, 290, 40, 118) := ⟨by decide, _, rfl, ⟨rfl, mX5_put, rfl, xtc6 145 rfl rfl, xtc3 222 rfl rfl, xtc3 223 rfl rfl, (RX5, TX5, 4), rfl, rfl⟩⟩
theorem lk_663 : xLq RX6 (3, 13, 283, 40, 42) := ⟨by decide, _, rfl, ⟨rfl, mX5_clear, rfl, xtc6 105 rfl rfl, xtc3 74 rfl rfl, xtc3 75 rfl rfl, (RX5, TX5, 4), rfl, rfl⟩⟩
theorem lk_664 : xLq RX6 (3, 1, 6, 3, 20) := ⟨by decide, _, rfl, ⟨rfl, (RX6, TX6, 6), rfl, by decide, xtc2 47 rfl rfl⟩⟩
theorem lk_665 : xLq RX6 (3, 1, 6, 0, 23) := ⟨by decide, _, rfl, ⟨rfl, (RX6, TX6, 6), rfl, by decide, xtc2 44 rfl rfl⟩⟩
theorem lk_666 : xLq RX6 (3, 1, 9, 1, 49) := ⟨by decide, _, rfl, ⟨rfl, (RX9, TX9, 14), rfl, by decide, xtc1 135 rfl rfl⟩⟩
theorem lk_667 : xLq RX6 (3, 13, 319, 64, 52) := ⟨by decide, _, rfl, ⟨rfl, mX8_start, rfl, xtc6 106 rfl rfl, xtc3 78 rfl rfl, xtc3 79 rfl rfl, (RX8, TX8, 6), rfl, rfl⟩⟩
theorem lk_668 : xLq RX6 (3, 13, 294, 48, 59) := ⟨by decide, _, rfl, ⟨rfl, mX6_readLine, rfl, xtc6 107 rfl rfl, xtc6 109 rfl rfl, xtb 47 (by decide +kernel) rfl, (RX6, TX6, 6), rfl, rfl⟩⟩
theorem lk_669 : xLq RX6 (3, 13, 326, 72, 66) := ⟨by decide, _, rfl, ⟨rfl, mX9_take, rfl, xtc6 154 rfl rfl, xtc3 230 rfl rfl, xtc3 231 rfl rfl, (RX9, TX9, 14), rfl, rfl⟩⟩
theorem lk_670 : xLq RX6 (3, 1, 6, 5, 69) := ⟨by decide, _, rfl, ⟨rfl, (RX6, TX6, 6), rfl, by decide, xtc2 49 rfl rfl⟩⟩
theorem lk_671 : xLq RX6 (3, 1, 9, 12, 72) := ⟨by decide, _, rfl, ⟨rfl, (RX9, TX9, 14), rfl, by decide, xtc1 166 rfl rfl⟩⟩
theorem lk_672 : xLq RX6 (3, 13, 284, 40, 75) := ⟨by decide, _, rfl, ⟨rfl, mX5_copy, rfl, xtc6 155 rfl rfl, xtc4 2 rfl rfl, xtc4 3 rfl rfl, (RX5, TX5, 4), rfl, rfl⟩⟩
theorem lk_673 : xLq RX6 (3, 1, 9, 13, 79) := ⟨by decide, _, rfl, ⟨rfl, (RX9, TX9, 14), rfl, by decide, xtc1 169 rfl rfl⟩⟩
theorem lk_674 : xLq RX6 (3, 1, 5, 3, 82) := ⟨by decide, _, rfl, ⟨rfl, (RX5, TX5, 4), rfl, by decide, xtc1 52 rfl rfl⟩⟩
theorem lk_675 : xLq RX6 (2, 72, 21, 0, 133) := ⟨by decide, _, rfl, ⟨rfl, "not", rfl, List.mem_of_getElem? (i := 1453) (by decide +kernel)⟩⟩
theorem lk_676 : xLq RX6 (3, 13, 292, 48, 135) := ⟨by decide, _, rfl, ⟨rfl, mX6_measureOfWord, rfl, xtc6 129 rfl rfl, xtc6 131 rfl rfl, xtb 51 (by decide +kernel) rfl, (RX6, TX6, 6), rfl, rfl⟩⟩
theorem lk_677 : xLq RX6 (3, 13, 296, 48, 128) := ⟨by decide, _, rfl, ⟨rfl, mX6_readTest, rfl, xtc6 124 rfl rfl, xtc6 126 rfl rfl, xtb 50 (by decide +kernel) rfl, (RX6, TX6, 6), rfl, rfl⟩⟩
theorem lk_678 : xLq RX6 (2, 72, 22, 0, 131) := ⟨by decide, _, rfl, ⟨rfl, "and", rfl, List.mem_of_getElem? (i := 1471) (by decide +kernel)⟩⟩
theorem lk_679 : xLq RX6 (2, 72, 23, 0, 122) := ⟨by decide, _, rfl, ⟨rfl, "bar", rfl, List.mem_of_getElem? (i := 1476) (by decide +kernel)⟩⟩
theorem lk_680 : xLq RX6 (2, 72, 24, 0, 124) := ⟨by decide, _, rfl, ⟨rfl, "price", rfl, List.mem_of_getElem? (i := 1477) (by decide +kernel)⟩⟩
theorem lk_681 : xLq RX6 (2, 72, 25, 0, 126) := ⟨by decide, _, rfl, ⟨rfl, "less", rfl, List.mem_of_getElem? (i := 1478) (by decide +kernel)⟩⟩
theorem lk_682 : xLq RX7 (3, 1, 7, 0, 22) := ⟨by decide, _, rfl, ⟨rfl, (RX7, TX7, 5), rfl, by decide, xtc2 191 rfl rfl⟩⟩
theorem lk_683 : xLq RX7 (3, 1, 1, 5, 33) := ⟨by decide, _, rfl, ⟨rfl, (RX1, TX1, 10), rfl, by decide, xtc1 87 rfl rfl⟩⟩
theorem lk_684 : xLq RX7 (3, 1, 1, 6, 39) := ⟨by decide, _, rfl, ⟨rfl, (RX1, TX1, 10), rfl, by decide, xtc1 91 rfl rfl⟩⟩
theorem lk_685 : xLq RX7 (3, 13, 301, 56, 50) := ⟨by decide, _, rfl, ⟨rfl, mX7_hasFlaw, rfl, xtc5 181 rfl rfl, xtc5 183 rfl rfl, xtb 39 (by decide +kernel) rfl, (RX7, TX7, 5), rfl, rfl⟩⟩
theorem lk_686 : xLq RX7 (3, 1, 7, 1, 9) := ⟨by decide, _, rfl, ⟨rfl, (RX7, TX7, 5), rfl, by decide, xtc2 192 rfl rfl⟩⟩
theorem lk_687 : xLq RX7 (3, 13, 304, 58, 54) := ⟨by decide, _, rfl, ⟨rfl, mX7_pieceOf, rfl, xtc5 185 rfl rfl, xtc5 186 rfl rfl⟩⟩
theorem lk_688 : xLq RX7 (3, 13, 309, 56, 58) := ⟨by decide, _, rfl, ⟨rfl, mX7_worthCut, rfl, xtc5 190 rfl rfl, xtc5 192 rfl rfl, xtb 40 (by decide +kernel) rfl, (RX7, TX7, 5), rfl, rfl⟩⟩
theorem lk_689 : xLq RX7 (3, 62, 0, 0, 61) := ⟨by decide, _, rfl, ⟨rfl, xtc5 176 rfl rfl⟩⟩
theorem lk_690 : xLq RX7 (3, 59, 7, 3, 26) := ⟨by decide, _, rfl, ⟨rfl, (RX7, TX7, 5), .boolean, rfl, by decide, xtc2 195 rfl rfl, rfl, (fun h => by cases h), by decide +kernel, rfl⟩⟩
theorem lk_691 : xLq RX7 (3, 59, 7, 4, 30) := ⟨by decide, _, rfl, ⟨rfl, (RX7, TX7, 5), .boolean, rfl, by decide, xtc2 196 rfl rfl, rfl, (fun h => by cases h), by decide +kernel, rfl⟩⟩
theorem lk_692 : xLq RX7 (3, 1, 1, 4, 82) := ⟨by decide, _, rfl, ⟨rfl, (RX1, TX1, 10), rfl, by decide, xtc1 84 rfl rfl⟩⟩
theorem lk_693 : xLq RX7 (3, 1, 5, 3, 72) := ⟨by decide, _, rfl, ⟨rfl, (RX5, TX5, 4), rfl, by decide, xtc1 59 rfl rfl⟩⟩
theorem lk_694 : xLq RX7 (3, 13, 285, 40, 79) := ⟨by decide, _, rfl, ⟨rfl, mX5_get, rfl, xtc5 175 rfl rfl, xtc3 202 rfl rfl, xtc3 203 rfl rfl, (RX5, TX5, 4), rfl, rfl⟩⟩
theorem lk_695 : xLq RX7 (3, 25, 0, 0, 1) := ⟨by decide, _, rfl, ⟨rfl, xtc2 188 rfl rfl⟩⟩
theorem lk_696 : xLq RX7 (3, 61, 7, 1, 9) := ⟨by decide, _, rfl, ⟨rfl, (RX7, TX7, 5), .array .int, rfl, by decide, xtc2 192 rfl rfl, rfl, (fun _ => rfl), by decide +kernel, Or.inr ⟨_, rfl⟩⟩⟩
theorem lk_697 : xLq RX7 (3, 24, 5, 0, 13) := ⟨by decide, _, rfl, ⟨rfl, (RX5, TX5, 4), rfl, xtc2 189 rfl rfl, xtc1 43 rfl rfl, xtc1 4 rfl rfl⟩⟩
theorem lk_698 : xLq RX7 (3, 13, 288, 44, 15) := ⟨by decide, _, rfl, ⟨rfl, mX5_init, rfl, xtc2 190 rfl rfl, rfl, rfl, rfl, xtc1 45 rfl rfl⟩⟩
theorem lk_699 : xLq RX7 (3, 61, 7, 2, 18) := ⟨by decide, _, rfl, ⟨rfl, (RX7, TX7, 5), .object "BentScreens$Rows", rfl, by decide, xtc2 193 rfl rfl, rfl, (fun _ => rfl), by decide +kernel, Or.inl ⟨_, rfl⟩⟩⟩
theorem lk_700 : xLq RX7 (3, 61, 7, 0, 22) := ⟨by decide, _, rfl, ⟨rfl, (RX7, TX7, 5), .object "BentScreens$Film", rfl, by decide, xtc2 191 rfl rfl, rfl, (fun _ => rfl), by decide +kernel, Or.inl ⟨_, rfl⟩⟩⟩
theorem lk_701 : xLq RX7 (3, 1, 1, 3, 69) := ⟨by decide, _, rfl, ⟨rfl, (RX1, TX1, 10), rfl, by decide, xtc1 82 rfl rfl⟩⟩
theorem lk_702 : xLq RX7 (3, 37, 0, 0, 66) := ⟨by decide, _, rfl, ⟨rfl, _, rfl, xtc5 188 rfl rfl⟩⟩
theorem lk_703 : xLq RX7 (3, 13, 303, 56, 75) := ⟨by decide, _, rfl, ⟨rfl, mX7_isAsLarge, rfl, xtc5 171 rfl rfl, xtc5 173 rfl rfl, xtb 37 (by decide +kernel) rfl, (RX7, TX7, 5), rfl, rfl⟩⟩
theorem lk_704 : xLq RX7 (3, 1, 7, 2, 18) := ⟨by decide, _, rfl, ⟨rfl, (RX7, TX7, 5), rfl, by decide, xtc2 193 rfl rfl⟩⟩
theorem lk_705 : xLq RX7 (3, 13, 286, 40, 102) := ⟨by decide, _, rfl, ⟨rfl, mX5_grow, rfl, xtc5 216 rfl rfl, xtc3 217 rfl rfl, xtc3 218 rfl rfl, (RX5, TX5, 4), rfl, rfl⟩⟩
theorem lk_706 : xLq RX7 (3, 13, 290, 40, 106) := ⟨by decide, _, rfl, ⟨rfl, mX5_put, rfl, xtc5 217 rfl rfl, xtc3 222 rfl rfl, xtc3 223 rfl rfl, (RX5, TX5, 4), rfl, rfl⟩⟩
theorem lk_707 : xLq RX7 (3, 13, 310, 56, 95) := ⟨by decide, _, rfl, ⟨rfl, mX7_worthOf, rfl, xtc5 211 rfl rfl, xtc5 195 rfl rfl, xtc5 196 rfl rfl, (RX7, TX7, 5), rfl, rfl⟩⟩
theorem lk_708 : xLq RX7 (3, 13, 311, 56, 42) := ⟨by decide, _, rfl, ⟨rfl, mX7_worthOfSize, rfl, xtc5 167 rfl rfl, xtc5 169 rfl rfl, xtb 36 (by decide +kernel) rfl, (RX7, TX7, 5), rfl, rfl⟩⟩
theorem lk_709 : xLq RX7 (3, 13, 305, 56, 98) := ⟨by decide, _, rfl, ⟨rfl, mX7_planPanel, rfl, xtc5 212 rfl rfl, xtc5 214 rfl rfl, xtb 41 (by decide +kernel) rfl, (RX7, TX7, 5), rfl, rfl⟩⟩
theorem lk_710 : xLq RX7 (3, 13, 306, 58, 91) := ⟨by decide, _, rfl, ⟨rfl, mX7_planPiece, rfl, xtc5 208 rfl rfl, xtc5 209 rfl rfl⟩⟩
theorem lk_711 : xLq RX7 (3, 1, 7, 4, 30) := ⟨by decide, _, rfl, ⟨rfl, (RX7, TX7, 5), rfl, by decide, xtc2 196 rfl rfl⟩⟩
theorem lk_712 : xLq RX7 (3, 13, 308, 56, 85) := ⟨by decide, _, rfl, ⟨rfl, mX7_refreshWorth, rfl, xtc5 206 rfl rfl, xtc5 164 rfl rfl, xtc5 165 rfl rfl, (RX7, TX7, 5), rfl, rfl⟩⟩
theorem lk_713 : xLq RX7 (3, 13, 283, 40, 88) := ⟨by decide, _, rfl, ⟨rfl, mX5_clear, rfl, xtc5 207 rfl rfl, xtc3 74 rfl rfl, xtc3 75 rfl rfl, (RX5, TX5, 4), rfl, rfl⟩⟩
theorem lk_714 : xLq RX7 (3, 1, 7, 3, 26) := ⟨by decide, _, rfl, ⟨rfl, (RX7, TX7, 5), rfl, by decide, xtc2 195 rfl rfl⟩⟩
theorem lk_715 : xLq RX7 (3, 13, 299, 56, 46) := ⟨by decide, _, rfl, ⟨rfl, mX7_fillWorths, rfl, xtc5 177 rfl rfl, xtc5 179 rfl rfl, xtb 38 (by decide +kernel) rfl, (RX7, TX7, 5), rfl, rfl⟩⟩
theorem lk_716 : xLq RX8 (3, 1, 8, 4, 23) := ⟨by decide, _, rfl, ⟨rfl, (RX8, TX8, 6), rfl, by decide, xtc1 223 rfl rfl⟩⟩
theorem lk_717 : xLq RX8 (3, 1, 8, 1, 19) := ⟨by decide, _, rfl, ⟨rfl, (RX8, TX8, 6), rfl, by decide, xtc1 216 rfl rfl⟩⟩
theorem lk_718 : xLq RX8 (3, 1, 8, 0, 7) := ⟨by decide, _, rfl, ⟨rfl, (RX8, TX8, 6), rfl, by decide, xtc1 215 rfl rfl⟩⟩
theorem lk_719 : xLq RX8 (3, 14, 8, 4, 23) := ⟨by decide, _, rfl, ⟨rfl, (RX8, TX8, 6), .int, rfl, by decide, xtc1 223 rfl rfl, rfl, (fun h => by cases h), by decide +kernel, rfl⟩⟩
theorem lk_720 : xLq RX8 (3, 14, 8, 3, 29) := ⟨by decide, _, rfl, ⟨rfl, (RX8, TX8, 6), .int, rfl, by decide, xtc1 222 rfl rfl, rfl, (fun h => by cases h), by decide +kernel, rfl⟩⟩
theorem lk_721 : xLq RX8 (3, 14, 8, 2, 32) := ⟨by decide, _, rfl, ⟨rfl, (RX8, TX8, 6), .int, rfl, by decide, xtc1 219 rfl rfl, rfl, (fun h => by cases h), by decide +kernel, rfl⟩⟩
theorem lk_722 : xLq RX8 (3, 13, 315, 66, 35) := ⟨by decide, _, rfl, ⟨rfl, mX8_isLetter, rfl, xtc3 88 rfl rfl, xtc3 89 rfl rfl⟩⟩
theorem lk_723 : xLq RX8 (3, 13, 314, 66, 39) := ⟨by decide, _, rfl, ⟨rfl, mX8_isDigit, rfl, xtc3 91 rfl rfl, xtc3 92 rfl rfl⟩⟩
theorem lk_724 : xLq RX8 (3, 13, 320, 64, 42) := ⟨by decide, _, rfl, ⟨rfl, mX8_takeDigits, rfl, xtc3 94 rfl rfl, xtc3 96 rfl rfl, xtb 0 (by decide +kernel) rfl, (RX8, TX8, 6), rfl, rfl⟩⟩
theorem lk_725 : xLq RX8 (3, 13, 317, 66, 45) := ⟨by decide, _, rfl, ⟨rfl, mX8_isSignByte, rfl, xtc3 98 rfl rfl, xtc3 99 rfl rfl⟩⟩
theorem lk_726 : xLq RX8 (3, 25, 0, 0, 1) := ⟨by decide, _, rfl, ⟨rfl, xtc1 214 rfl rfl⟩⟩
theorem lk_727 : xLq RX8 (3, 61, 8, 0, 7) := ⟨by decide, _, rfl, ⟨rfl, (RX8, TX8, 6), .array .byte, rfl, by decide, xtc1 215 rfl rfl, rfl, (fun _ => rfl), by decide +kernel, Or.inr ⟨_, rfl⟩⟩⟩
theorem lk_728 : xLq RX8 (3, 1, 8, 2, 32) := ⟨by decide, _, rfl, ⟨rfl, (RX8, TX8, 6), rfl, by decide, xtc1 219 rfl rfl⟩⟩
theorem lk_729 : xLq RX8 (3, 1, 8, 3, 29) := ⟨by decide, _, rfl, ⟨rfl, (RX8, TX8, 6), rfl, by decide, xtc1 222 rfl rfl⟩⟩
theorem lk_730 : xLq RX8 (3, 73, 0, 0, 51) := ⟨by decide, _, rfl, ⟨rfl, xtc3 114 rfl rfl⟩⟩
theorem lk_731 : xLq RX8 (3, 74, 0, 0, 56) := ⟨by decide, _, rfl, ⟨rfl, xtc3 124 rfl rfl⟩⟩
theorem lk_732 : xLq RX8 (3, 63, 0, 0, 13) := ⟨by decide, _, rfl, ⟨rfl, xtc3 81 rfl rfl⟩⟩
theorem lk_733 : xLq RX8 (3, 14, 8, 1, 19) := ⟨by decide, _, rfl, ⟨rfl, (RX8, TX8, 6), .int, rfl, by decide, xtc1 216 rfl rfl, rfl, (fun h => by cases h), by decide +kernel, rfl⟩⟩
theorem lk_734 : xLq RX8 (3, 13, 312, 64, 26) := ⟨by decide, _, rfl, ⟨rfl, mX8_advance, rfl, xtc3 84 rfl rfl, xtc3 85 rfl rfl, xtc3 86 rfl rfl, (RX8, TX8, 6), rfl, rfl⟩⟩
theorem lk_735 : xLq RX8 (3, 14, 8, 5, 48) := ⟨by decide, _, rfl, ⟨rfl, (RX8, TX8, 6), .int, rfl, by decide, xtc1 226 rfl rfl, rfl, (fun h => by cases h), by decide +kernel, rfl⟩⟩
theorem lk_736 : xLq RX8 (3, 1, 8, 5, 48) := ⟨by decide, _, rfl, ⟨rfl, (RX8, TX8, 6), rfl, by decide, xtc1 226 rfl rfl⟩⟩
theorem lk_737 : xLq RX9 (3, 1, 9, 1, 57) := ⟨by decide, _, rfl, ⟨rfl, (RX9, TX9, 14), rfl, by decide, xtc1 134 rfl rfl⟩⟩
theorem lk_738 : xLq RX9 (3, 1, 9, 0, 11) := ⟨by decide, _, rfl, ⟨rfl, (RX9, TX9, 14), rfl, by decide, xtc1 130 rfl rfl⟩⟩
theorem lk_739 : xLq RX9 (3, 14, 9, 1, 57) := ⟨by decide, _, rfl, ⟨rfl, (RX9, TX9, 14), .int, rfl, by decide, xtc1 134 rfl rfl, rfl, (fun h => by cases h), by decide +kernel, rfl⟩⟩
theorem lk_740 : xLq RX9 (3, 58, 0, 0, 70) := ⟨by decide, _, rfl, ⟨rfl, xtc6 200 rfl rfl⟩⟩
theorem lk_741 : xLq RX9 (3, 1, 9, 2, 60) := ⟨by decide, _, rfl, ⟨rfl, (RX9, TX9, 14), rfl, by decide, xtc1 137 rfl rfl⟩⟩
theorem lk_742 : xLq RX9 (3, 14, 9, 2, 60) := ⟨by decide, _, rfl, ⟨rfl, (RX9, TX9, 14), .int, rfl, by decide, xtc1 137 rfl rfl, rfl, (fun h => by cases h), by decide +kernel, rfl⟩⟩
theorem lk_743 : xLq RX9 (3, 1, 9, 3, 15) := ⟨by decide, _, rfl, ⟨rfl, (RX9, TX9, 14), rfl, by decide, xtc1 139 rfl rfl⟩⟩
theorem lk_744 : xLq RX9 (3, 14, 9, 3, 15) := ⟨by decide, _, rfl, ⟨rfl, (RX9, TX9, 14), .int, rfl, by decide, xtc1 139 rfl rfl, rfl, (fun h => by cases h), by decide +kernel, rfl⟩⟩
theorem lk_745 : xLq RX9 (3, 1, 9, 4, 22) := ⟨by decide, _, rfl, ⟨rfl, (RX9, TX9, 14), rfl, by decide, xtc1 141 rfl rfl⟩⟩
theorem lk_746 : xLq RX9 (3, 13, 241, 8, 76) := ⟨by decide, _, rfl, ⟨rfl, mX1_copy, rfl, xtc6 201 rfl rfl, xtc3 238 rfl rfl, xtc3 239 rfl rfl, (RX1, TX1, 10), rfl, rfl⟩⟩
theorem lk_747 : xLq RX9 (3, 1, 9, 5, 31) := ⟨by decide, _, rfl, ⟨rfl, (RX9, TX9, 14), rfl, by decide, xtc1 146 rfl rfl⟩⟩
theorem lk_748 : xLq RX9 (3, 13, 284, 40, 80) := ⟨by decide, _, rfl, ⟨rfl, mX5_copy, rfl, xtc6 202 rfl rfl, xtc4 2 rfl rfl, xtc4 3 rfl rfl, (RX5, TX5, 4), rfl, rfl⟩⟩
theorem lk_749 : xLq RX9 (3, 1, 9, 6, 83) := ⟨by decide, _, rfl, ⟨rfl, (RX9, TX9, 14), rfl, by decide, xtc1 150 rfl rfl⟩⟩
theorem lk_750 : xLq RX9 (3, 14, 9, 6, 83) := ⟨by decide, _, rfl, ⟨rfl, (RX9, TX9, 14), .int, rfl, by decide, xtc1 150 rfl rfl, rfl, (fun h => by cases h), by decide +kernel, rfl⟩⟩
theorem lk_751 : xLq RX9 (3, 1, 9, 7, 35) := ⟨by decide, _, rfl, ⟨rfl, (RX9, TX9, 14), rfl, by decide, xtc1 152 rfl rfl⟩⟩
theorem lk_752 : xLq RX9 (3, 14, 9, 7, 35) := ⟨by decide, _, rfl, ⟨rfl, (RX9, TX9, 14), .int, rfl, by decide, xtc1 152 rfl rfl, rfl, (fun h => by cases h), by decide +kernel, rfl⟩⟩
theorem lk_753 : xLq RX9 (3, 1, 9, 8, 38) := ⟨by decide, _, rfl, ⟨rfl, (RX9, TX9, 14), rfl, by decide, xtc1 154 rfl rfl⟩⟩
theorem lk_754 : xLq RX9 (3, 1, 9, 9, 86) := ⟨by decide, _, rfl, ⟨rfl, (RX9, TX9, 14), rfl, by decide, xtc1 158 rfl rfl⟩⟩
theorem lk_755 : xLq RX9 (3, 14, 9, 9, 86) := ⟨by decide, _, rfl, ⟨rfl, (RX9, TX9, 14), .int, rfl, by decide, xtc1 158 rfl rfl, rfl, (fun h => by cases h), by decide +kernel, rfl⟩⟩
theorem lk_756 : xLq RX9 (3, 1, 9, 10, 41) := ⟨by decide, _, rfl, ⟨rfl, (RX9, TX9, 14), rfl, by decide, xtc1 161 rfl rfl⟩⟩
theorem lk_757 : xLq RX9 (3, 1, 9, 11, 46) := ⟨by decide, _, rfl, ⟨rfl, (RX9, TX9, 14), rfl, by decide, xtc1 163 rfl rfl⟩⟩
theorem lk_758 : xLq RX9 (3, 1, 9, 12, 51) := ⟨by decide, _, rfl, ⟨rfl, (RX9, TX9, 14), rfl, by decide, xtc1 165 rfl rfl⟩⟩
theorem lk_759 : xLq RX9 (3, 1, 9, 13, 54) := ⟨by decide, _, rfl, ⟨rfl, (RX9, TX9, 14), rfl, by decide, xtc1 168 rfl rfl⟩⟩
theorem lk_760 : xLq RX9 (3, 1, 5, 3, 63) := ⟨by decide, _, rfl, ⟨rfl, (RX5, TX5, 4), rfl, by decide, xtc1 56 rfl rfl⟩⟩
theorem lk_761 : xLq RX9 (3, 13, 285, 40, 66) := ⟨by decide, _, rfl, ⟨rfl, mX5_get, rfl, xtc4 204 rfl rfl, xtc3 202 rfl rfl, xtc3 203 rfl rfl, (RX5, TX5, 4), rfl, rfl⟩⟩
theorem lk_762 : xLq RX9 (3, 25, 0, 0, 3) := ⟨by decide, _, rfl, ⟨rfl, xtc1 35 rfl rfl⟩⟩
theorem lk_763 : xLq RX9 (3, 61, 9, 0, 11) := ⟨by decide, _, rfl, ⟨rfl, (RX9, TX9, 14), .array .byte, rfl, by decide, xtc1 130 rfl rfl, rfl, (fun _ => rfl), by decide +kernel, Or.inr ⟨_, rfl⟩⟩⟩
theorem lk_764 : xLq RX9 (3, 24, 1, 0, 19) := ⟨by decide, _, rfl, ⟨rfl, (RX1, TX1, 10), rfl, xtc1 36 rfl rfl, xtc1 37 rfl rfl, xtc1 3 rfl rfl⟩⟩
theorem lk_765 : xLq RX9 (3, 13, 242, 13, 21) := ⟨by decide, _, rfl, ⟨rfl, mX1_init, rfl, "BentScreens", List.mem_of_getElem? (i := 163) (by decide +kernel), rfl, rfl, rfl, xtc1 39 rfl rfl⟩⟩
theorem lk_766 : xLq RX9 (3, 61, 9, 4, 22) := ⟨by decide, _, rfl, ⟨rfl, (RX9, TX9, 14), .object "BentScreens$Film", rfl, by decide, xtc1 141 rfl rfl, rfl, (fun _ => rfl), by decide +kernel, Or.inl ⟨_, rfl⟩⟩⟩
theorem lk_767 : xLq RX9 (3, 24, 5, 0, 26) := ⟨by decide, _, rfl, ⟨rfl, (RX5, TX5, 4), rfl, xtc1 128 rfl rfl, xtc1 43 rfl rfl, xtc1 4 rfl rfl⟩⟩
theorem lk_768 : xLq RX9 (3, 13, 288, 44, 28) := ⟨by decide, _, rfl, ⟨rfl, mX5_init, rfl, xtc1 129 rfl rfl, rfl, rfl, rfl, xtc1 45 rfl rfl⟩⟩
theorem lk_769 : xLq RX9 (3, 61, 9, 5, 31) := ⟨by decide, _, rfl, ⟨rfl, (RX9, TX9, 14), .object "BentScreens$Rows", rfl, by decide, xtc1 146 rfl rfl, rfl, (fun _ => rfl), by decide +kernel, Or.inl ⟨_, rfl⟩⟩⟩
theorem lk_770 : xLq RX9 (3, 61, 9, 8, 38) := ⟨by decide, _, rfl, ⟨rfl, (RX9, TX9, 14), .object "BentScreens$Rows", rfl, by decide, xtc1 154 rfl rfl, rfl, (fun _ => rfl), by decide +kernel, Or.inl ⟨_, rfl⟩⟩⟩
theorem lk_771 : xLq RX9 (3, 61, 9, 10, 41) := ⟨by decide, _, rfl, ⟨rfl, (RX9, TX9, 14), .object "BentScreens$Rows", rfl, by decide, xtc1 161 rfl rfl, rfl, (fun _ => rfl), by decide +kernel, Or.inl ⟨_, rfl⟩⟩⟩
theorem lk_772 : xLq RX9 (3, 61, 9, 11, 46) := ⟨by decide, _, rfl, ⟨rfl, (RX9, TX9, 14), .object "BentScreens$Rows", rfl, by decide, xtc1 163 rfl rfl, rfl, (fun _ => rfl), by decide +kernel, Or.inl ⟨_, rfl⟩⟩⟩
theorem lk_773 : xLq RX9 (3, 61, 9, 12, 51) := ⟨by decide, _, rfl, ⟨rfl, (RX9, TX9, 14), .object "BentScreens$Rows", rfl, by decide, xtc1 165 rfl rfl, rfl, (fun _ => rfl), by decide +kernel, Or.inl ⟨_, rfl⟩⟩⟩
theorem lk_774 : xLq RX9 (3, 61, 9, 13, 54) := ⟨by decide, _, rfl, ⟨rfl, (RX9, TX9, 14), .object "BentScreens$Rows", rfl, by decide, xtc1 168 rfl rfl, rfl, (fun _ => rfl), by decide +kernel, Or.inl ⟨_, rfl⟩⟩⟩
