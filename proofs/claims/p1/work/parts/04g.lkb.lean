theorem lk_328 : xLq RX12 (3, 13, 159, 96, 355) := ⟨by decide, _, rfl, ⟨rfl, mX12_pieceOf, rfl, xtb 2017 (by decide +kernel) rfl, xtb 2019 (by decide +kernel) rfl, xtb 101 (by decide +kernel) rfl, (RX12, TX12, 47), rfl, rfl⟩⟩
theorem lk_329 : xLq RX1 (3, 1, 1, 0, 14) := ⟨by decide, _, rfl, ⟨rfl, (RX1, TX1, 10), rfl, by decide, xtb 197 (by decide +kernel) rfl⟩⟩
theorem lk_330 : xLq RX1 (3, 13, 204, 40, 50) := ⟨by decide, _, rfl, ⟨rfl, mX5_clear, rfl, xtb 678 (by decide +kernel) rfl, xtb 679 (by decide +kernel) rfl, xtb 680 (by decide +kernel) rfl, (RX5, TX5, 4), rfl, rfl⟩⟩
theorem lk_331 : xLq RX1 (3, 1, 1, 1, 18) := ⟨by decide, _, rfl, ⟨rfl, (RX1, TX1, 10), rfl, by decide, xtb 200 (by decide +kernel) rfl⟩⟩
theorem lk_332 : xLq RX1 (3, 1, 1, 2, 21) := ⟨by decide, _, rfl, ⟨rfl, (RX1, TX1, 10), rfl, by decide, xtb 203 (by decide +kernel) rfl⟩⟩
theorem lk_333 : xLq RX1 (3, 1, 1, 3, 24) := ⟨by decide, _, rfl, ⟨rfl, (RX1, TX1, 10), rfl, by decide, xtb 206 (by decide +kernel) rfl⟩⟩
theorem lk_334 : xLq RX1 (3, 1, 1, 4, 27) := ⟨by decide, _, rfl, ⟨rfl, (RX1, TX1, 10), rfl, by decide, xtb 208 (by decide +kernel) rfl⟩⟩
theorem lk_335 : xLq RX1 (3, 14, 1, 5, 30) := ⟨by decide, _, rfl, ⟨rfl, (RX1, TX1, 10), .int, rfl, by decide, xtb 211 (by decide +kernel) rfl, rfl, (fun h => by cases h), by decide +kernel, rfl⟩⟩
theorem lk_336 : xLq RX1 (3, 14, 1, 6, 34) := ⟨by decide, _, rfl, ⟨rfl, (RX1, TX1, 10), .int, rfl, by decide, xtb 215 (by decide +kernel) rfl, rfl, (fun h => by cases h), by decide +kernel, rfl⟩⟩
theorem lk_337 : xLq RX1 (3, 14, 1, 7, 37) := ⟨by decide, _, rfl, ⟨rfl, (RX1, TX1, 10), .int, rfl, by decide, xtb 219 (by decide +kernel) rfl, rfl, (fun h => by cases h), by decide +kernel, rfl⟩⟩
theorem lk_338 : xLq RX1 (3, 14, 1, 8, 40) := ⟨by decide, _, rfl, ⟨rfl, (RX1, TX1, 10), .int, rfl, by decide, xtb 224 (by decide +kernel) rfl, rfl, (fun h => by cases h), by decide +kernel, rfl⟩⟩
theorem lk_339 : xLq RX1 (3, 14, 1, 9, 53) := ⟨by decide, _, rfl, ⟨rfl, (RX1, TX1, 10), .int, rfl, by decide, xtb 230 (by decide +kernel) rfl, rfl, (fun h => by cases h), by decide +kernel, rfl⟩⟩
theorem lk_340 : xLq RX1 (3, 13, 205, 40, 56) := ⟨by decide, _, rfl, ⟨rfl, mX5_copy, rfl, xtb 846 (by decide +kernel) rfl, xtb 847 (by decide +kernel) rfl, xtb 848 (by decide +kernel) rfl, (RX5, TX5, 4), rfl, rfl⟩⟩
theorem lk_341 : xLq RX1 (3, 1, 1, 5, 30) := ⟨by decide, _, rfl, ⟨rfl, (RX1, TX1, 10), rfl, by decide, xtb 211 (by decide +kernel) rfl⟩⟩
theorem lk_342 : xLq RX1 (3, 1, 1, 6, 34) := ⟨by decide, _, rfl, ⟨rfl, (RX1, TX1, 10), rfl, by decide, xtb 215 (by decide +kernel) rfl⟩⟩
theorem lk_343 : xLq RX1 (3, 1, 1, 7, 37) := ⟨by decide, _, rfl, ⟨rfl, (RX1, TX1, 10), rfl, by decide, xtb 219 (by decide +kernel) rfl⟩⟩
theorem lk_344 : xLq RX1 (3, 1, 1, 8, 40) := ⟨by decide, _, rfl, ⟨rfl, (RX1, TX1, 10), rfl, by decide, xtb 224 (by decide +kernel) rfl⟩⟩
theorem lk_345 : xLq RX1 (3, 1, 1, 9, 53) := ⟨by decide, _, rfl, ⟨rfl, (RX1, TX1, 10), rfl, by decide, xtb 230 (by decide +kernel) rfl⟩⟩
theorem lk_346 : xLq RX1 (3, 25, 0, 0, 1) := ⟨by decide, _, rfl, ⟨rfl, xtb 166 (by decide +kernel) rfl⟩⟩
theorem lk_347 : xLq RX1 (3, 24, 5, 0, 7) := ⟨by decide, _, rfl, ⟨rfl, (RX5, TX5, 4), rfl, xtb 167 (by decide +kernel) rfl, xtb 168 (by decide +kernel) rfl, xtb 129 (by decide +kernel) rfl⟩⟩
theorem lk_348 : xLq RX1 (3, 13, 209, 44, 11) := ⟨by decide, _, rfl, ⟨rfl, mX5_init, rfl, xtb 169 (by decide +kernel) rfl, rfl, rfl, rfl, xtb 170 (by decide +kernel) rfl⟩⟩
theorem lk_349 : xLq RX1 (3, 61, 1, 0, 14) := ⟨by decide, _, rfl, ⟨rfl, (RX1, TX1, 10), .object "BentScreens$Rows", rfl, by decide, xtb 197 (by decide +kernel) rfl, rfl, (fun _ => rfl), by decide +kernel, Or.inl ⟨_, rfl⟩⟩⟩
theorem lk_350 : xLq RX1 (3, 61, 1, 1, 18) := ⟨by decide, _, rfl, ⟨rfl, (RX1, TX1, 10), .object "BentScreens$Rows", rfl, by decide, xtb 200 (by decide +kernel) rfl, rfl, (fun _ => rfl), by decide +kernel, Or.inl ⟨_, rfl⟩⟩⟩
theorem lk_351 : xLq RX1 (3, 61, 1, 2, 21) := ⟨by decide, _, rfl, ⟨rfl, (RX1, TX1, 10), .object "BentScreens$Rows", rfl, by decide, xtb 203 (by decide +kernel) rfl, rfl, (fun _ => rfl), by decide +kernel, Or.inl ⟨_, rfl⟩⟩⟩
theorem lk_352 : xLq RX1 (3, 61, 1, 3, 24) := ⟨by decide, _, rfl, ⟨rfl, (RX1, TX1, 10), .object "BentScreens$Rows", rfl, by decide, xtb 206 (by decide +kernel) rfl, rfl, (fun _ => rfl), by decide +kernel, Or.inl ⟨_, rfl⟩⟩⟩
theorem lk_353 : xLq RX1 (3, 61, 1, 4, 27) := ⟨by decide, _, rfl, ⟨rfl, (RX1, TX1, 10), .object "BentScreens$Rows", rfl, by decide, xtb 208 (by decide +kernel) rfl, rfl, (fun _ => rfl), by decide +kernel, Or.inl ⟨_, rfl⟩⟩⟩
theorem lk_354 : xLq RX1 (3, 1, 5, 3, 43) := ⟨by decide, _, rfl, ⟨rfl, (RX5, TX5, 4), rfl, by decide, xtb 178 (by decide +kernel) rfl⟩⟩
theorem lk_355 : xLq RX1 (3, 13, 206, 40, 46) := ⟨by decide, _, rfl, ⟨rfl, mX5_get, rfl, xtb 1493 (by decide +kernel) rfl, xtb 807 (by decide +kernel) rfl, xtb 808 (by decide +kernel) rfl, (RX5, TX5, 4), rfl, rfl⟩⟩
theorem lk_356 : xLq RX2 (3, 1, 2, 9, 57) := ⟨by decide, _, rfl, ⟨rfl, (RX2, TX2, 11), rfl, by decide, xtb 374 (by decide +kernel) rfl⟩⟩
theorem lk_357 : xLq RX2 (3, 1, 2, 2, 12) := ⟨by decide, _, rfl, ⟨rfl, (RX2, TX2, 11), rfl, by decide, xtb 367 (by decide +kernel) rfl⟩⟩
theorem lk_358 : xLq RX2 (3, 1, 1, 4, 211) := ⟨by decide, _, rfl, ⟨rfl, (RX1, TX1, 10), rfl, by decide, xtb 210 (by decide +kernel) rfl⟩⟩
theorem lk_359 : xLq RX2 (3, 1, 5, 3, 185) := ⟨by decide, _, rfl, ⟨rfl, (RX5, TX5, 4), rfl, by decide, xtb 183 (by decide +kernel) rfl⟩⟩
theorem lk_360 : xLq RX2 (3, 1, 2, 5, 25) := ⟨by decide, _, rfl, ⟨rfl, (RX2, TX2, 11), rfl, by decide, xtb 370 (by decide +kernel) rfl⟩⟩
theorem lk_361 : xLq RX2 (3, 13, 206, 40, 188) := ⟨by decide, _, rfl, ⟨rfl, mX5_get, rfl, xtb 806 (by decide +kernel) rfl, xtb 807 (by decide +kernel) rfl, xtb 808 (by decide +kernel) rfl, (RX5, TX5, 4), rfl, rfl⟩⟩
theorem lk_362 : xLq RX2 (3, 1, 1, 5, 192) := ⟨by decide, _, rfl, ⟨rfl, (RX1, TX1, 10), rfl, by decide, xtb 213 (by decide +kernel) rfl⟩⟩
theorem lk_363 : xLq RX2 (3, 1, 1, 6, 195) := ⟨by decide, _, rfl, ⟨rfl, (RX1, TX1, 10), rfl, by decide, xtb 217 (by decide +kernel) rfl⟩⟩
theorem lk_364 : xLq RX2 (3, 14, 2, 9, 57) := ⟨by decide, _, rfl, ⟨rfl, (RX2, TX2, 11), .int, rfl, by decide, xtb 374 (by decide +kernel) rfl, rfl, (fun h => by cases h), by decide +kernel, rfl⟩⟩
theorem lk_365 : xLq RX2 (3, 14, 2, 10, 88) := ⟨by decide, _, rfl, ⟨rfl, (RX2, TX2, 11), .int, rfl, by decide, xtb 375 (by decide +kernel) rfl, rfl, (fun h => by cases h), by decide +kernel, rfl⟩⟩
theorem lk_366 : xLq RX2 (3, 25, 0, 0, 3) := ⟨by decide, _, rfl, ⟨rfl, xtb 331 (by decide +kernel) rfl⟩⟩
theorem lk_367 : xLq RX2 (3, 24, 1, 0, 9) := ⟨by decide, _, rfl, ⟨rfl, (RX1, TX1, 10), rfl, xtb 332 (by decide +kernel) rfl, xtb 162 (by decide +kernel) rfl, xtb 128 (by decide +kernel) rfl⟩⟩
theorem lk_368 : xLq RX2 (3, 13, 182, 13, 11) := ⟨by decide, _, rfl, ⟨rfl, mX1_init, rfl, "BentScreens", List.mem_of_getElem? (i := 333) (by decide +kernel), rfl, rfl, rfl, xtb 164 (by decide +kernel) rfl⟩⟩
theorem lk_369 : xLq RX2 (3, 61, 2, 2, 12) := ⟨by decide, _, rfl, ⟨rfl, (RX2, TX2, 11), .object "BentScreens$Film", rfl, by decide, xtb 367 (by decide +kernel) rfl, rfl, (fun _ => rfl), by decide +kernel, Or.inl ⟨_, rfl⟩⟩⟩
theorem lk_370 : xLq RX2 (3, 61, 2, 3, 18) := ⟨by decide, _, rfl, ⟨rfl, (RX2, TX2, 11), .array .int, rfl, by decide, xtb 368 (by decide +kernel) rfl, rfl, (fun _ => rfl), by decide +kernel, Or.inr ⟨_, rfl⟩⟩⟩
theorem lk_371 : xLq RX2 (3, 61, 2, 4, 22) := ⟨by decide, _, rfl, ⟨rfl, (RX2, TX2, 11), .array .int, rfl, by decide, xtb 369 (by decide +kernel) rfl, rfl, (fun _ => rfl), by decide +kernel, Or.inr ⟨_, rfl⟩⟩⟩
theorem lk_372 : xLq RX2 (3, 61, 2, 5, 25) := ⟨by decide, _, rfl, ⟨rfl, (RX2, TX2, 11), .array .int, rfl, by decide, xtb 370 (by decide +kernel) rfl, rfl, (fun _ => rfl), by decide +kernel, Or.inr ⟨_, rfl⟩⟩⟩
theorem lk_373 : xLq RX2 (3, 61, 2, 0, 28) := ⟨by decide, _, rfl, ⟨rfl, (RX2, TX2, 11), .object "BentScreens$Told", rfl, by decide, xtb 365 (by decide +kernel) rfl, rfl, (fun _ => rfl), by decide +kernel, Or.inl ⟨_, rfl⟩⟩⟩
theorem lk_374 : xLq RX2 (3, 24, 8, 0, 32) := ⟨by decide, _, rfl, ⟨rfl, (RX8, TX8, 6), rfl, xtb 334 (by decide +kernel) rfl, xtb 335 (by decide +kernel) rfl, xtb 131 (by decide +kernel) rfl⟩⟩
theorem lk_375 : xLq RX2 (3, 1, 9, 0, 34) := ⟨by decide, _, rfl, ⟨rfl, (RX9, TX9, 14), rfl, by decide, xtb 257 (by decide +kernel) rfl⟩⟩
theorem lk_376 : xLq RX2 (3, 13, 225, 68, 40) := ⟨by decide, _, rfl, ⟨rfl, mX8_init, rfl, xtb 336 (by decide +kernel) rfl, rfl, rfl, rfl, xtb 337 (by decide +kernel) rfl⟩⟩
theorem lk_377 : xLq RX2 (3, 61, 2, 1, 43) := ⟨by decide, _, rfl, ⟨rfl, (RX2, TX2, 11), .object "BentScreens$Tokens", rfl, by decide, xtb 366 (by decide +kernel) rfl, rfl, (fun _ => rfl), by decide +kernel, Or.inl ⟨_, rfl⟩⟩⟩
theorem lk_378 : xLq RX2 (3, 13, 180, 8, 47) := ⟨by decide, _, rfl, ⟨rfl, mX1_clear, rfl, xtb 674 (by decide +kernel) rfl, xtb 675 (by decide +kernel) rfl, xtb 676 (by decide +kernel) rfl, (RX1, TX1, 10), rfl, rfl⟩⟩
theorem lk_379 : xLq RX2 (3, 59, 2, 7, 50) := ⟨by decide, _, rfl, ⟨rfl, (RX2, TX2, 11), .boolean, rfl, by decide, xtb 372 (by decide +kernel) rfl, rfl, (fun h => by cases h), by decide +kernel, rfl⟩⟩
theorem lk_380 : xLq RX2 (3, 59, 2, 8, 54) := ⟨by decide, _, rfl, ⟨rfl, (RX2, TX2, 11), .boolean, rfl, by decide, xtb 373 (by decide +kernel) rfl, rfl, (fun h => by cases h), by decide +kernel, rfl⟩⟩
theorem lk_381 : xLq RX2 (3, 1, 2, 1, 43) := ⟨by decide, _, rfl, ⟨rfl, (RX2, TX2, 11), rfl, by decide, xtb 366 (by decide +kernel) rfl⟩⟩
theorem lk_382 : xLq RX2 (3, 1, 2, 0, 28) := ⟨by decide, _, rfl, ⟨rfl, (RX2, TX2, 11), rfl, by decide, xtb 365 (by decide +kernel) rfl⟩⟩
theorem lk_383 : xLq RX2 (3, 1, 9, 1, 61) := ⟨by decide, _, rfl, ⟨rfl, (RX9, TX9, 14), rfl, by decide, xtb 261 (by decide +kernel) rfl⟩⟩
theorem lk_384 : xLq RX2 (3, 13, 226, 64, 64) := ⟨by decide, _, rfl, ⟨rfl, mX8_start, rfl, xtb 682 (by decide +kernel) rfl, xtb 683 (by decide +kernel) rfl, xtb 684 (by decide +kernel) rfl, (RX8, TX8, 6), rfl, rfl⟩⟩
theorem lk_385 : xLq RX2 (3, 1, 1, 9, 68) := ⟨by decide, _, rfl, ⟨rfl, (RX1, TX1, 10), rfl, by decide, xtb 229 (by decide +kernel) rfl⟩⟩
theorem lk_386 : xLq RX2 (3, 1, 8, 2, 71) := ⟨by decide, _, rfl, ⟨rfl, (RX8, TX8, 6), rfl, by decide, xtb 343 (by decide +kernel) rfl⟩⟩
theorem lk_387 : xLq RX2 (3, 14, 1, 9, 68) := ⟨by decide, _, rfl, ⟨rfl, (RX1, TX1, 10), .int, rfl, by decide, xtb 229 (by decide +kernel) rfl, rfl, (fun h => by cases h), by decide +kernel, rfl⟩⟩
theorem lk_388 : xLq RX2 (3, 13, 185, 16, 85) := ⟨by decide, _, rfl, ⟨rfl, mX2_findFlawBeside, rfl, xtb 838 (by decide +kernel) rfl, xtb 840 (by decide +kernel) rfl, xtb 8 (by decide +kernel) rfl, (RX2, TX2, 11), rfl, rfl⟩⟩
theorem lk_389 : xLq RX2 (3, 1, 2, 10, 88) := ⟨by decide, _, rfl, ⟨rfl, (RX2, TX2, 11), rfl, by decide, xtb 375 (by decide +kernel) rfl⟩⟩
theorem lk_390 : xLq RX2 (3, 13, 231, 72, 81) := ⟨by decide, _, rfl, ⟨rfl, mX9_take, rfl, xtb 834 (by decide +kernel) rfl, xtb 835 (by decide +kernel) rfl, xtb 836 (by decide +kernel) rfl, (RX9, TX9, 14), rfl, rfl⟩⟩
theorem lk_391 : xLq RX2 (3, 1, 9, 4, 91) := ⟨by decide, _, rfl, ⟨rfl, (RX9, TX9, 14), rfl, by decide, xtb 268 (by decide +kernel) rfl⟩⟩
theorem lk_392 : xLq RX2 (3, 13, 181, 8, 94) := ⟨by decide, _, rfl, ⟨rfl, mX1_copy, rfl, xtb 842 (by decide +kernel) rfl, xtb 843 (by decide +kernel) rfl, xtb 844 (by decide +kernel) rfl, (RX1, TX1, 10), rfl, rfl⟩⟩
theorem lk_393 : xLq RX2 (3, 1, 9, 5, 98) := ⟨by decide, _, rfl, ⟨rfl, (RX9, TX9, 14), rfl, by decide, xtb 272 (by decide +kernel) rfl⟩⟩
theorem lk_394 : xLq RX2 (3, 13, 204, 40, 102) := ⟨by decide, _, rfl, ⟨rfl, mX5_clear, rfl, xtb 853 (by decide +kernel) rfl, xtb 679 (by decide +kernel) rfl, xtb 680 (by decide +kernel) rfl, (RX5, TX5, 4), rfl, rfl⟩⟩
theorem lk_395 : xLq RX2 (3, 1, 9, 8, 105) := ⟨by decide, _, rfl, ⟨rfl, (RX9, TX9, 14), rfl, by decide, xtb 280 (by decide +kernel) rfl⟩⟩
theorem lk_396 : xLq RX3 (3, 59, 3, 4, 25) := ⟨by decide, _, rfl, ⟨rfl, (RX3, TX3, 6), .boolean, rfl, by decide, xtb 533 (by decide +kernel) rfl, rfl, (fun h => by cases h), by decide +kernel, rfl⟩⟩
theorem lk_397 : xLq RX3 (3, 59, 3, 5, 29) := ⟨by decide, _, rfl, ⟨rfl, (RX3, TX3, 6), .boolean, rfl, by decide, xtb 534 (by decide +kernel) rfl, rfl, (fun h => by cases h), by decide +kernel, rfl⟩⟩
theorem lk_398 : xLq RX3 (3, 25, 0, 0, 1) := ⟨by decide, _, rfl, ⟨rfl, xtb 527 (by decide +kernel) rfl⟩⟩
theorem lk_399 : xLq RX3 (3, 61, 3, 1, 9) := ⟨by decide, _, rfl, ⟨rfl, (RX3, TX3, 6), .array .int, rfl, by decide, xtb 529 (by decide +kernel) rfl, rfl, (fun _ => rfl), by decide +kernel, Or.inr ⟨_, rfl⟩⟩⟩
theorem lk_400 : xLq RX3 (3, 61, 3, 2, 15) := ⟨by decide, _, rfl, ⟨rfl, (RX3, TX3, 6), .array .int, rfl, by decide, xtb 530 (by decide +kernel) rfl, rfl, (fun _ => rfl), by decide +kernel, Or.inr ⟨_, rfl⟩⟩⟩
theorem lk_401 : xLq RX3 (3, 61, 3, 3, 18) := ⟨by decide, _, rfl, ⟨rfl, (RX3, TX3, 6), .array .int, rfl, by decide, xtb 532 (by decide +kernel) rfl, rfl, (fun _ => rfl), by decide +kernel, Or.inr ⟨_, rfl⟩⟩⟩
theorem lk_402 : xLq RX3 (3, 61, 3, 0, 21) := ⟨by decide, _, rfl, ⟨rfl, (RX3, TX3, 6), .object "BentScreens$Told", rfl, by decide, xtb 528 (by decide +kernel) rfl, rfl, (fun _ => rfl), by decide +kernel, Or.inl ⟨_, rfl⟩⟩⟩
theorem lk_403 : xLq RX3 (3, 1, 3, 2, 15) := ⟨by decide, _, rfl, ⟨rfl, (RX3, TX3, 6), rfl, by decide, xtb 530 (by decide +kernel) rfl⟩⟩
theorem lk_404 : xLq RX3 (3, 1, 3, 1, 9) := ⟨by decide, _, rfl, ⟨rfl, (RX3, TX3, 6), rfl, by decide, xtb 529 (by decide +kernel) rfl⟩⟩
theorem lk_405 : xLq RX3 (3, 62, 0, 0, 63) := ⟨by decide, _, rfl, ⟨rfl, xtb 1163 (by decide +kernel) rfl⟩⟩
theorem lk_406 : xLq RX3 (3, 1, 3, 0, 21) := ⟨by decide, _, rfl, ⟨rfl, (RX3, TX3, 6), rfl, by decide, xtb 528 (by decide +kernel) rfl⟩⟩
theorem lk_407 : xLq RX3 (3, 1, 9, 4, 66) := ⟨by decide, _, rfl, ⟨rfl, (RX9, TX9, 14), rfl, by decide, xtb 270 (by decide +kernel) rfl⟩⟩
theorem lk_408 : xLq RX3 (3, 1, 1, 7, 70) := ⟨by decide, _, rfl, ⟨rfl, (RX1, TX1, 10), rfl, by decide, xtb 221 (by decide +kernel) rfl⟩⟩
theorem lk_409 : xLq RX3 (3, 1, 1, 8, 73) := ⟨by decide, _, rfl, ⟨rfl, (RX1, TX1, 10), rfl, by decide, xtb 226 (by decide +kernel) rfl⟩⟩
theorem lk_410 : xLq RX3 (3, 13, 192, 24, 76) := ⟨by decide, _, rfl, ⟨rfl, mX3_leftOf, rfl, xtb 1178 (by decide +kernel) rfl, xtb 1167 (by decide +kernel) rfl, xtb 1168 (by decide +kernel) rfl, (RX3, TX3, 6), rfl, rfl⟩⟩
theorem lk_411 : xLq RX3 (3, 63, 0, 0, 58) := ⟨by decide, _, rfl, ⟨rfl, xtb 1162 (by decide +kernel) rfl⟩⟩
theorem lk_412 : xLq RX3 (3, 1, 3, 4, 25) := ⟨by decide, _, rfl, ⟨rfl, (RX3, TX3, 6), rfl, by decide, xtb 533 (by decide +kernel) rfl⟩⟩
theorem lk_413 : xLq RX3 (3, 13, 1, 2, 32) := ⟨by decide, _, rfl, ⟨rfl, mJ7_fill_53178, rfl, xtb 1156 (by decide +kernel) rfl, xtb 1080 (by decide +kernel) rfl⟩⟩
theorem lk_414 : xLq RX3 (3, 1, 9, 8, 38) := ⟨by decide, _, rfl, ⟨rfl, (RX9, TX9, 14), rfl, by decide, xtb 281 (by decide +kernel) rfl⟩⟩
theorem lk_415 : xLq RX3 (3, 1, 5, 3, 44) := ⟨by decide, _, rfl, ⟨rfl, (RX5, TX5, 4), rfl, by decide, xtb 182 (by decide +kernel) rfl⟩⟩
theorem lk_416 : xLq RX3 (3, 1, 3, 5, 29) := ⟨by decide, _, rfl, ⟨rfl, (RX3, TX3, 6), rfl, by decide, xtb 534 (by decide +kernel) rfl⟩⟩
theorem lk_417 : xLq RX3 (3, 1, 9, 9, 80) := ⟨by decide, _, rfl, ⟨rfl, (RX9, TX9, 14), rfl, by decide, xtb 284 (by decide +kernel) rfl⟩⟩
theorem lk_418 : xLq RX4 (3, 59, 4, 9, 25) := ⟨by decide, _, rfl, ⟨rfl, (RX4, TX4, 12), .boolean, rfl, by decide, xtb 592 (by decide +kernel) rfl, rfl, (fun h => by cases h), by decide +kernel, rfl⟩⟩
theorem lk_419 : xLq RX4 (3, 59, 4, 10, 29) := ⟨by decide, _, rfl, ⟨rfl, (RX4, TX4, 12), .boolean, rfl, by decide, xtb 593 (by decide +kernel) rfl, rfl, (fun h => by cases h), by decide +kernel, rfl⟩⟩
theorem lk_420 : xLq RX4 (3, 59, 4, 11, 32) := ⟨by decide, _, rfl, ⟨rfl, (RX4, TX4, 12), .boolean, rfl, by decide, xtb 594 (by decide +kernel) rfl, rfl, (fun h => by cases h), by decide +kernel, rfl⟩⟩
theorem lk_421 : xLq RX4 (3, 25, 0, 0, 3) := ⟨by decide, _, rfl, ⟨rfl, xtb 578 (by decide +kernel) rfl⟩⟩
theorem lk_422 : xLq RX4 (3, 61, 4, 1, 11) := ⟨by decide, _, rfl, ⟨rfl, (RX4, TX4, 12), .array .int, rfl, by decide, xtb 580 (by decide +kernel) rfl, rfl, (fun _ => rfl), by decide +kernel, Or.inr ⟨_, rfl⟩⟩⟩
theorem lk_423 : xLq RX4 (3, 61, 4, 2, 15) := ⟨by decide, _, rfl, ⟨rfl, (RX4, TX4, 12), .array .int, rfl, by decide, xtb 581 (by decide +kernel) rfl, rfl, (fun _ => rfl), by decide +kernel, Or.inr ⟨_, rfl⟩⟩⟩
theorem lk_424 : xLq RX4 (3, 61, 4, 3, 18) := ⟨by decide, _, rfl, ⟨rfl, (RX4, TX4, 12), .array .int, rfl, by decide, xtb 582 (by decide +kernel) rfl, rfl, (fun _ => rfl), by decide +kernel, Or.inr ⟨_, rfl⟩⟩⟩
theorem lk_425 : xLq RX4 (3, 61, 4, 0, 21) := ⟨by decide, _, rfl, ⟨rfl, (RX4, TX4, 12), .object "BentScreens$Rows", rfl, by decide, xtb 579 (by decide +kernel) rfl, rfl, (fun _ => rfl), by decide +kernel, Or.inl ⟨_, rfl⟩⟩⟩
theorem lk_426 : xLq RX4 (3, 1, 4, 1, 11) := ⟨by decide, _, rfl, ⟨rfl, (RX4, TX4, 12), rfl, by decide, xtb 580 (by decide +kernel) rfl⟩⟩
theorem lk_427 : xLq RX4 (3, 1, 4, 9, 25) := ⟨by decide, _, rfl, ⟨rfl, (RX4, TX4, 12), rfl, by decide, xtb 592 (by decide +kernel) rfl⟩⟩
theorem lk_428 : xLq RX4 (3, 14, 4, 4, 35) := ⟨by decide, _, rfl, ⟨rfl, (RX4, TX4, 12), .int, rfl, by decide, xtb 583 (by decide +kernel) rfl, rfl, (fun h => by cases h), by decide +kernel, rfl⟩⟩
theorem lk_429 : xLq RX4 (3, 13, 202, 32, 39) := ⟨by decide, _, rfl, ⟨rfl, mX4_testsAgainst, rfl, xtb 1358 (by decide +kernel) rfl, xtb 1360 (by decide +kernel) rfl, xtb 44 (by decide +kernel) rfl, (RX4, TX4, 12), rfl, rfl⟩⟩
theorem lk_430 : xLq RX4 (3, 1, 4, 4, 35) := ⟨by decide, _, rfl, ⟨rfl, (RX4, TX4, 12), rfl, by decide, xtb 583 (by decide +kernel) rfl⟩⟩
theorem lk_431 : xLq RX4 (3, 13, 203, 34, 54) := ⟨by decide, _, rfl, ⟨rfl, mX4_unitAt, rfl, xtb 1363 (by decide +kernel) rfl, xtb 1364 (by decide +kernel) rfl⟩⟩
theorem lk_432 : xLq RX4 (3, 62, 0, 0, 68) := ⟨by decide, _, rfl, ⟨rfl, xtb 1385 (by decide +kernel) rfl⟩⟩
theorem lk_433 : xLq RX4 (2, 35, 2147483647, 0, 62) := ⟨by decide, _, rfl, ⟨rfl, by decide, xtb 1390 (by decide +kernel) rfl⟩⟩
theorem lk_434 : xLq RX4 (3, 63, 0, 0, 63) := ⟨by decide, _, rfl, ⟨rfl, xtb 1391 (by decide +kernel) rfl⟩⟩
theorem lk_435 : xLq RX4 (3, 1, 4, 0, 21) := ⟨by decide, _, rfl, ⟨rfl, (RX4, TX4, 12), rfl, by decide, xtb 579 (by decide +kernel) rfl⟩⟩
theorem lk_436 : xLq RX4 (3, 1, 5, 3, 43) := ⟨by decide, _, rfl, ⟨rfl, (RX5, TX5, 4), rfl, by decide, xtb 180 (by decide +kernel) rfl⟩⟩
theorem lk_437 : xLq RX4 (3, 13, 206, 40, 50) := ⟨by decide, _, rfl, ⟨rfl, mX5_get, rfl, xtb 1362 (by decide +kernel) rfl, xtb 807 (by decide +kernel) rfl, xtb 808 (by decide +kernel) rfl, (RX5, TX5, 4), rfl, rfl⟩⟩
theorem lk_438 : xLq RX5 (3, 14, 5, 3, 22) := ⟨by decide, _, rfl, ⟨rfl, (RX5, TX5, 4), .int, rfl, by decide, xtb 176 (by decide +kernel) rfl, rfl, (fun h => by cases h), by decide +kernel, rfl⟩⟩
theorem lk_439 : xLq RX5 (3, 1, 5, 0, 9) := ⟨by decide, _, rfl, ⟨rfl, (RX5, TX5, 4), rfl, by decide, xtb 173 (by decide +kernel) rfl⟩⟩
theorem lk_440 : xLq RX5 (3, 1, 5, 1, 15) := ⟨by decide, _, rfl, ⟨rfl, (RX5, TX5, 4), rfl, by decide, xtb 174 (by decide +kernel) rfl⟩⟩
theorem lk_441 : xLq RX5 (3, 1, 5, 3, 22) := ⟨by decide, _, rfl, ⟨rfl, (RX5, TX5, 4), rfl, by decide, xtb 176 (by decide +kernel) rfl⟩⟩
theorem lk_442 : xLq RX5 (3, 1, 5, 2, 18) := ⟨by decide, _, rfl, ⟨rfl, (RX5, TX5, 4), rfl, by decide, xtb 175 (by decide +kernel) rfl⟩⟩
theorem lk_443 : xLq RX5 (3, 58, 0, 0, 33) := ⟨by decide, _, rfl, ⟨rfl, xtb 850 (by decide +kernel) rfl⟩⟩
theorem lk_444 : xLq RX5 (3, 13, 210, 40, 29) := ⟨by decide, _, rfl, ⟨rfl, mX5_isFull, rfl, xtb 825 (by decide +kernel) rfl, xtb 799 (by decide +kernel) rfl, xtb 800 (by decide +kernel) rfl, (RX5, TX5, 4), rfl, rfl⟩⟩
theorem lk_445 : xLq RX5 (3, 25, 0, 0, 3) := ⟨by decide, _, rfl, ⟨rfl, xtb 172 (by decide +kernel) rfl⟩⟩
theorem lk_446 : xLq RX5 (3, 22, 5, 0, 9) := ⟨by decide, _, rfl, ⟨rfl, (RX5, TX5, 4), .int, rfl, by decide, xtb 173 (by decide +kernel) rfl, rfl, (fun _ => rfl), by decide +kernel, rfl⟩⟩
theorem lk_447 : xLq RX5 (3, 22, 5, 1, 15) := ⟨by decide, _, rfl, ⟨rfl, (RX5, TX5, 4), .int, rfl, by decide, xtb 174 (by decide +kernel) rfl, rfl, (fun _ => rfl), by decide +kernel, rfl⟩⟩
theorem lk_448 : xLq RX5 (3, 61, 5, 2, 18) := ⟨by decide, _, rfl, ⟨rfl, (RX5, TX5, 4), .array .int, rfl, by decide, xtb 175 (by decide +kernel) rfl, rfl, (fun _ => rfl), by decide +kernel, Or.inr ⟨_, rfl⟩⟩⟩
theorem lk_449 : xLq RX5 (3, 13, 208, 40, 25) := ⟨by decide, _, rfl, ⟨rfl, mX5_has, rfl, xtb 830 (by decide +kernel) rfl, xtb 831 (by decide +kernel) rfl, xtb 832 (by decide +kernel) rfl, (RX5, TX5, 4), rfl, rfl⟩⟩
theorem lk_450 : xLq RX6 (3, 25, 0, 0, 3) := ⟨by decide, _, rfl, ⟨rfl, xtb 404 (by decide +kernel) rfl⟩⟩
theorem lk_451 : xLq RX6 (3, 24, 5, 0, 9) := ⟨by decide, _, rfl, ⟨rfl, (RX5, TX5, 4), rfl, xtb 405 (by decide +kernel) rfl, xtb 168 (by decide +kernel) rfl, xtb 129 (by decide +kernel) rfl⟩⟩
theorem lk_452 : xLq RX6 (3, 13, 209, 44, 13) := ⟨by decide, _, rfl, ⟨rfl, mX5_init, rfl, xtb 406 (by decide +kernel) rfl, rfl, rfl, rfl, xtb 170 (by decide +kernel) rfl⟩⟩
theorem lk_453 : xLq RX6 (3, 61, 6, 2, 16) := ⟨by decide, _, rfl, ⟨rfl, (RX6, TX6, 6), .object "BentScreens$Rows", rfl, by decide, xtb 411 (by decide +kernel) rfl, rfl, (fun _ => rfl), by decide +kernel, Or.inl ⟨_, rfl⟩⟩⟩
theorem lk_454 : xLq RX6 (3, 61, 6, 3, 20) := ⟨by decide, _, rfl, ⟨rfl, (RX6, TX6, 6), .object "BentScreens$Rows", rfl, by decide, xtb 412 (by decide +kernel) rfl, rfl, (fun _ => rfl), by decide +kernel, Or.inl ⟨_, rfl⟩⟩⟩
theorem lk_455 : xLq RX6 (3, 61, 6, 0, 23) := ⟨by decide, _, rfl, ⟨rfl, (RX6, TX6, 6), .object "BentScreens$Told", rfl, by decide, xtb 409 (by decide +kernel) rfl, rfl, (fun _ => rfl), by decide +kernel, Or.inl ⟨_, rfl⟩⟩⟩
theorem lk_456 : xLq RX6 (3, 24, 8, 0, 27) := ⟨by decide, _, rfl, ⟨rfl, (RX8, TX8, 6), rfl, xtb 407 (by decide +kernel) rfl, xtb 335 (by decide +kernel) rfl, xtb 131 (by decide +kernel) rfl⟩⟩
theorem lk_457 : xLq RX6 (3, 1, 9, 0, 29) := ⟨by decide, _, rfl, ⟨rfl, (RX9, TX9, 14), rfl, by decide, xtb 256 (by decide +kernel) rfl⟩⟩
theorem lk_458 : xLq RX6 (3, 13, 225, 68, 35) := ⟨by decide, _, rfl, ⟨rfl, mX8_init, rfl, xtb 408 (by decide +kernel) rfl, rfl, rfl, rfl, xtb 337 (by decide +kernel) rfl⟩⟩
theorem lk_459 : xLq RX6 (3, 61, 6, 1, 38) := ⟨by decide, _, rfl, ⟨rfl, (RX6, TX6, 6), .object "BentScreens$Tokens", rfl, by decide, xtb 410 (by decide +kernel) rfl, rfl, (fun _ => rfl), by decide +kernel, Or.inl ⟨_, rfl⟩⟩⟩
theorem lk_460 : xLq RX6 (3, 1, 6, 2, 16) := ⟨by decide, _, rfl, ⟨rfl, (RX6, TX6, 6), rfl, by decide, xtb 411 (by decide +kernel) rfl⟩⟩
theorem lk_461 : xLq RX6 (3, 13, 204, 40, 42) := ⟨by decide, _, rfl, ⟨rfl, mX5_clear, rfl, xtb 1430 (by decide +kernel) rfl, xtb 679 (by decide +kernel) rfl, xtb 680 (by decide +kernel) rfl, (RX5, TX5, 4), rfl, rfl⟩⟩
theorem lk_462 : xLq RX6 (3, 1, 6, 3, 20) := ⟨by decide, _, rfl, ⟨rfl, (RX6, TX6, 6), rfl, by decide, xtb 412 (by decide +kernel) rfl⟩⟩
theorem lk_463 : xLq RX6 (3, 14, 6, 4, 45) := ⟨by decide, _, rfl, ⟨rfl, (RX6, TX6, 6), .int, rfl, by decide, xtb 413 (by decide +kernel) rfl, rfl, (fun h => by cases h), by decide +kernel, rfl⟩⟩
theorem lk_464 : xLq RX6 (3, 1, 6, 1, 38) := ⟨by decide, _, rfl, ⟨rfl, (RX6, TX6, 6), rfl, by decide, xtb 410 (by decide +kernel) rfl⟩⟩
theorem lk_465 : xLq RX6 (3, 1, 6, 0, 23) := ⟨by decide, _, rfl, ⟨rfl, (RX6, TX6, 6), rfl, by decide, xtb 409 (by decide +kernel) rfl⟩⟩
theorem lk_466 : xLq RX6 (3, 1, 9, 1, 49) := ⟨by decide, _, rfl, ⟨rfl, (RX9, TX9, 14), rfl, by decide, xtb 260 (by decide +kernel) rfl⟩⟩
theorem lk_467 : xLq RX6 (3, 13, 226, 64, 52) := ⟨by decide, _, rfl, ⟨rfl, mX8_start, rfl, xtb 1431 (by decide +kernel) rfl, xtb 683 (by decide +kernel) rfl, xtb 684 (by decide +kernel) rfl, (RX8, TX8, 6), rfl, rfl⟩⟩
theorem lk_468 : xLq RX6 (3, 1, 8, 2, 56) := ⟨by decide, _, rfl, ⟨rfl, (RX8, TX8, 6), rfl, by decide, xtb 342 (by decide +kernel) rfl⟩⟩
theorem lk_469 : xLq RX6 (3, 1, 6, 4, 45) := ⟨by decide, _, rfl, ⟨rfl, (RX6, TX6, 6), rfl, by decide, xtb 413 (by decide +kernel) rfl⟩⟩
theorem lk_470 : xLq RX6 (3, 1, 6, 5, 69) := ⟨by decide, _, rfl, ⟨rfl, (RX6, TX6, 6), rfl, by decide, xtb 414 (by decide +kernel) rfl⟩⟩
theorem lk_471 : xLq RX6 (3, 13, 231, 72, 66) := ⟨by decide, _, rfl, ⟨rfl, mX9_take, rfl, xtb 1479 (by decide +kernel) rfl, xtb 835 (by decide +kernel) rfl, xtb 836 (by decide +kernel) rfl, (RX9, TX9, 14), rfl, rfl⟩⟩
theorem lk_472 : xLq RX6 (3, 1, 9, 12, 72) := ⟨by decide, _, rfl, ⟨rfl, (RX9, TX9, 14), rfl, by decide, xtb 291 (by decide +kernel) rfl⟩⟩
theorem lk_473 : xLq RX6 (3, 13, 205, 40, 75) := ⟨by decide, _, rfl, ⟨rfl, mX5_copy, rfl, xtb 1480 (by decide +kernel) rfl, xtb 847 (by decide +kernel) rfl, xtb 848 (by decide +kernel) rfl, (RX5, TX5, 4), rfl, rfl⟩⟩
theorem lk_474 : xLq RX6 (3, 1, 9, 13, 79) := ⟨by decide, _, rfl, ⟨rfl, (RX9, TX9, 14), rfl, by decide, xtb 294 (by decide +kernel) rfl⟩⟩
theorem lk_475 : xLq RX6 (3, 1, 5, 3, 82) := ⟨by decide, _, rfl, ⟨rfl, (RX5, TX5, 4), rfl, by decide, xtb 177 (by decide +kernel) rfl⟩⟩
theorem lk_476 : xLq RX7 (3, 1, 7, 0, 22) := ⟨by decide, _, rfl, ⟨rfl, (RX7, TX7, 5), rfl, by decide, xtb 556 (by decide +kernel) rfl⟩⟩
theorem lk_477 : xLq RX7 (3, 1, 1, 5, 33) := ⟨by decide, _, rfl, ⟨rfl, (RX1, TX1, 10), rfl, by decide, xtb 212 (by decide +kernel) rfl⟩⟩
theorem lk_478 : xLq RX7 (3, 1, 1, 6, 39) := ⟨by decide, _, rfl, ⟨rfl, (RX1, TX1, 10), rfl, by decide, xtb 216 (by decide +kernel) rfl⟩⟩
theorem lk_479 : xLq RX7 (3, 1, 7, 1, 9) := ⟨by decide, _, rfl, ⟨rfl, (RX7, TX7, 5), rfl, by decide, xtb 557 (by decide +kernel) rfl⟩⟩
theorem lk_480 : xLq RX7 (3, 13, 217, 58, 54) := ⟨by decide, _, rfl, ⟨rfl, mX7_pieceOf, rfl, xtb 1270 (by decide +kernel) rfl, xtb 1271 (by decide +kernel) rfl⟩⟩
theorem lk_481 : xLq RX7 (3, 13, 221, 56, 58) := ⟨by decide, _, rfl, ⟨rfl, mX7_worthCut, rfl, xtb 1275 (by decide +kernel) rfl, xtb 1277 (by decide +kernel) rfl, xtb 40 (by decide +kernel) rfl, (RX7, TX7, 5), rfl, rfl⟩⟩
theorem lk_482 : xLq RX7 (3, 62, 0, 0, 61) := ⟨by decide, _, rfl, ⟨rfl, xtb 1261 (by decide +kernel) rfl⟩⟩
theorem lk_483 : xLq RX7 (3, 59, 7, 3, 26) := ⟨by decide, _, rfl, ⟨rfl, (RX7, TX7, 5), .boolean, rfl, by decide, xtb 560 (by decide +kernel) rfl, rfl, (fun h => by cases h), by decide +kernel, rfl⟩⟩
theorem lk_484 : xLq RX7 (3, 59, 7, 4, 30) := ⟨by decide, _, rfl, ⟨rfl, (RX7, TX7, 5), .boolean, rfl, by decide, xtb 561 (by decide +kernel) rfl, rfl, (fun h => by cases h), by decide +kernel, rfl⟩⟩
theorem lk_485 : xLq RX7 (3, 25, 0, 0, 1) := ⟨by decide, _, rfl, ⟨rfl, xtb 553 (by decide +kernel) rfl⟩⟩
theorem lk_486 : xLq RX7 (3, 61, 7, 1, 9) := ⟨by decide, _, rfl, ⟨rfl, (RX7, TX7, 5), .array .int, rfl, by decide, xtb 557 (by decide +kernel) rfl, rfl, (fun _ => rfl), by decide +kernel, Or.inr ⟨_, rfl⟩⟩⟩
theorem lk_487 : xLq RX7 (3, 24, 5, 0, 13) := ⟨by decide, _, rfl, ⟨rfl, (RX5, TX5, 4), rfl, xtb 554 (by decide +kernel) rfl, xtb 168 (by decide +kernel) rfl, xtb 129 (by decide +kernel) rfl⟩⟩
theorem lk_488 : xLq RX7 (3, 13, 209, 44, 15) := ⟨by decide, _, rfl, ⟨rfl, mX5_init, rfl, xtb 555 (by decide +kernel) rfl, rfl, rfl, rfl, xtb 170 (by decide +kernel) rfl⟩⟩
theorem lk_489 : xLq RX7 (3, 61, 7, 2, 18) := ⟨by decide, _, rfl, ⟨rfl, (RX7, TX7, 5), .object "BentScreens$Rows", rfl, by decide, xtb 558 (by decide +kernel) rfl, rfl, (fun _ => rfl), by decide +kernel, Or.inl ⟨_, rfl⟩⟩⟩
theorem lk_490 : xLq RX7 (3, 61, 7, 0, 22) := ⟨by decide, _, rfl, ⟨rfl, (RX7, TX7, 5), .object "BentScreens$Film", rfl, by decide, xtb 556 (by decide +kernel) rfl, rfl, (fun _ => rfl), by decide +kernel, Or.inl ⟨_, rfl⟩⟩⟩
theorem lk_491 : xLq RX7 (3, 37, 0, 0, 66) := ⟨by decide, _, rfl, ⟨rfl, _, rfl, xtb 1273 (by decide +kernel) rfl⟩⟩
theorem lk_492 : xLq RX7 (3, 13, 222, 56, 95) := ⟨by decide, _, rfl, ⟨rfl, mX7_worthOf, rfl, xtb 1296 (by decide +kernel) rfl, xtb 1280 (by decide +kernel) rfl, xtb 1281 (by decide +kernel) rfl, (RX7, TX7, 5), rfl, rfl⟩⟩
theorem lk_493 : xLq RX7 (3, 13, 223, 56, 42) := ⟨by decide, _, rfl, ⟨rfl, mX7_worthOfSize, rfl, xtb 1252 (by decide +kernel) rfl, xtb 1254 (by decide +kernel) rfl, xtb 36 (by decide +kernel) rfl, (RX7, TX7, 5), rfl, rfl⟩⟩
theorem lk_494 : xLq RX7 (3, 13, 218, 58, 91) := ⟨by decide, _, rfl, ⟨rfl, mX7_planPiece, rfl, xtb 1293 (by decide +kernel) rfl, xtb 1294 (by decide +kernel) rfl⟩⟩
theorem lk_495 : xLq RX7 (3, 1, 7, 4, 30) := ⟨by decide, _, rfl, ⟨rfl, (RX7, TX7, 5), rfl, by decide, xtb 561 (by decide +kernel) rfl⟩⟩
theorem lk_496 : xLq RX7 (3, 13, 220, 56, 85) := ⟨by decide, _, rfl, ⟨rfl, mX7_refreshWorth, rfl, xtb 1291 (by decide +kernel) rfl, xtb 1249 (by decide +kernel) rfl, xtb 1250 (by decide +kernel) rfl, (RX7, TX7, 5), rfl, rfl⟩⟩
theorem lk_497 : xLq RX7 (3, 1, 7, 2, 18) := ⟨by decide, _, rfl, ⟨rfl, (RX7, TX7, 5), rfl, by decide, xtb 558 (by decide +kernel) rfl⟩⟩
theorem lk_498 : xLq RX7 (3, 13, 204, 40, 88) := ⟨by decide, _, rfl, ⟨rfl, mX5_clear, rfl, xtb 1292 (by decide +kernel) rfl, xtb 679 (by decide +kernel) rfl, xtb 680 (by decide +kernel) rfl, (RX5, TX5, 4), rfl, rfl⟩⟩
theorem lk_499 : xLq RX7 (3, 1, 7, 3, 26) := ⟨by decide, _, rfl, ⟨rfl, (RX7, TX7, 5), rfl, by decide, xtb 560 (by decide +kernel) rfl⟩⟩
theorem lk_500 : xLq RX7 (3, 13, 214, 56, 46) := ⟨by decide, _, rfl, ⟨rfl, mX7_fillWorths, rfl, xtb 1262 (by decide +kernel) rfl, xtb 1264 (by decide +kernel) rfl, xtb 38 (by decide +kernel) rfl, (RX7, TX7, 5), rfl, rfl⟩⟩
theorem lk_501 : xLq RX7 (3, 1, 1, 3, 69) := ⟨by decide, _, rfl, ⟨rfl, (RX1, TX1, 10), rfl, by decide, xtb 207 (by decide +kernel) rfl⟩⟩
theorem lk_502 : xLq RX7 (3, 1, 5, 3, 72) := ⟨by decide, _, rfl, ⟨rfl, (RX5, TX5, 4), rfl, by decide, xtb 184 (by decide +kernel) rfl⟩⟩
theorem lk_503 : xLq RX8 (3, 1, 8, 4, 23) := ⟨by decide, _, rfl, ⟨rfl, (RX8, TX8, 6), rfl, by decide, xtb 348 (by decide +kernel) rfl⟩⟩
theorem lk_504 : xLq RX8 (3, 1, 8, 1, 19) := ⟨by decide, _, rfl, ⟨rfl, (RX8, TX8, 6), rfl, by decide, xtb 341 (by decide +kernel) rfl⟩⟩
theorem lk_505 : xLq RX8 (3, 1, 8, 0, 7) := ⟨by decide, _, rfl, ⟨rfl, (RX8, TX8, 6), rfl, by decide, xtb 340 (by decide +kernel) rfl⟩⟩
theorem lk_506 : xLq RX8 (3, 14, 8, 4, 23) := ⟨by decide, _, rfl, ⟨rfl, (RX8, TX8, 6), .int, rfl, by decide, xtb 348 (by decide +kernel) rfl, rfl, (fun h => by cases h), by decide +kernel, rfl⟩⟩
theorem lk_507 : xLq RX8 (3, 14, 8, 3, 29) := ⟨by decide, _, rfl, ⟨rfl, (RX8, TX8, 6), .int, rfl, by decide, xtb 347 (by decide +kernel) rfl, rfl, (fun h => by cases h), by decide +kernel, rfl⟩⟩
theorem lk_508 : xLq RX8 (3, 14, 8, 2, 32) := ⟨by decide, _, rfl, ⟨rfl, (RX8, TX8, 6), .int, rfl, by decide, xtb 344 (by decide +kernel) rfl, rfl, (fun h => by cases h), by decide +kernel, rfl⟩⟩
theorem lk_509 : xLq RX8 (3, 25, 0, 0, 1) := ⟨by decide, _, rfl, ⟨rfl, xtb 339 (by decide +kernel) rfl⟩⟩
theorem lk_510 : xLq RX8 (3, 61, 8, 0, 7) := ⟨by decide, _, rfl, ⟨rfl, (RX8, TX8, 6), .array .byte, rfl, by decide, xtb 340 (by decide +kernel) rfl, rfl, (fun _ => rfl), by decide +kernel, Or.inr ⟨_, rfl⟩⟩⟩
theorem lk_511 : xLq RX8 (3, 63, 0, 0, 13) := ⟨by decide, _, rfl, ⟨rfl, xtb 686 (by decide +kernel) rfl⟩⟩
theorem lk_512 : xLq RX8 (3, 14, 8, 1, 19) := ⟨by decide, _, rfl, ⟨rfl, (RX8, TX8, 6), .int, rfl, by decide, xtb 341 (by decide +kernel) rfl, rfl, (fun h => by cases h), by decide +kernel, rfl⟩⟩
theorem lk_513 : xLq RX8 (3, 13, 224, 64, 26) := ⟨by decide, _, rfl, ⟨rfl, mX8_advance, rfl, xtb 689 (by decide +kernel) rfl, xtb 690 (by decide +kernel) rfl, xtb 691 (by decide +kernel) rfl, (RX8, TX8, 6), rfl, rfl⟩⟩
theorem lk_514 : xLq RX9 (3, 1, 9, 1, 57) := ⟨by decide, _, rfl, ⟨rfl, (RX9, TX9, 14), rfl, by decide, xtb 259 (by decide +kernel) rfl⟩⟩
theorem lk_515 : xLq RX9 (3, 1, 9, 0, 11) := ⟨by decide, _, rfl, ⟨rfl, (RX9, TX9, 14), rfl, by decide, xtb 255 (by decide +kernel) rfl⟩⟩
theorem lk_516 : xLq RX9 (3, 14, 9, 1, 57) := ⟨by decide, _, rfl, ⟨rfl, (RX9, TX9, 14), .int, rfl, by decide, xtb 259 (by decide +kernel) rfl, rfl, (fun h => by cases h), by decide +kernel, rfl⟩⟩
theorem lk_517 : xLq RX9 (3, 58, 0, 0, 70) := ⟨by decide, _, rfl, ⟨rfl, xtb 1525 (by decide +kernel) rfl⟩⟩
theorem lk_518 : xLq RX9 (3, 1, 9, 2, 60) := ⟨by decide, _, rfl, ⟨rfl, (RX9, TX9, 14), rfl, by decide, xtb 262 (by decide +kernel) rfl⟩⟩
theorem lk_519 : xLq RX9 (3, 14, 9, 2, 60) := ⟨by decide, _, rfl, ⟨rfl, (RX9, TX9, 14), .int, rfl, by decide, xtb 262 (by decide +kernel) rfl, rfl, (fun h => by cases h), by decide +kernel, rfl⟩⟩
theorem lk_520 : xLq RX9 (3, 1, 9, 3, 15) := ⟨by decide, _, rfl, ⟨rfl, (RX9, TX9, 14), rfl, by decide, xtb 264 (by decide +kernel) rfl⟩⟩
theorem lk_521 : xLq RX9 (3, 14, 9, 3, 15) := ⟨by decide, _, rfl, ⟨rfl, (RX9, TX9, 14), .int, rfl, by decide, xtb 264 (by decide +kernel) rfl, rfl, (fun h => by cases h), by decide +kernel, rfl⟩⟩
theorem lk_522 : xLq RX9 (3, 1, 9, 4, 22) := ⟨by decide, _, rfl, ⟨rfl, (RX9, TX9, 14), rfl, by decide, xtb 266 (by decide +kernel) rfl⟩⟩
theorem lk_523 : xLq RX9 (3, 13, 181, 8, 76) := ⟨by decide, _, rfl, ⟨rfl, mX1_copy, rfl, xtb 1526 (by decide +kernel) rfl, xtb 843 (by decide +kernel) rfl, xtb 844 (by decide +kernel) rfl, (RX1, TX1, 10), rfl, rfl⟩⟩
theorem lk_524 : xLq RX9 (3, 1, 9, 5, 31) := ⟨by decide, _, rfl, ⟨rfl, (RX9, TX9, 14), rfl, by decide, xtb 271 (by decide +kernel) rfl⟩⟩
theorem lk_525 : xLq RX9 (3, 13, 205, 40, 80) := ⟨by decide, _, rfl, ⟨rfl, mX5_copy, rfl, xtb 1527 (by decide +kernel) rfl, xtb 847 (by decide +kernel) rfl, xtb 848 (by decide +kernel) rfl, (RX5, TX5, 4), rfl, rfl⟩⟩
theorem lk_526 : xLq RX9 (3, 1, 9, 6, 83) := ⟨by decide, _, rfl, ⟨rfl, (RX9, TX9, 14), rfl, by decide, xtb 275 (by decide +kernel) rfl⟩⟩
theorem lk_527 : xLq RX9 (3, 14, 9, 6, 83) := ⟨by decide, _, rfl, ⟨rfl, (RX9, TX9, 14), .int, rfl, by decide, xtb 275 (by decide +kernel) rfl, rfl, (fun h => by cases h), by decide +kernel, rfl⟩⟩
theorem lk_528 : xLq RX9 (3, 1, 9, 7, 35) := ⟨by decide, _, rfl, ⟨rfl, (RX9, TX9, 14), rfl, by decide, xtb 277 (by decide +kernel) rfl⟩⟩
theorem lk_529 : xLq RX9 (3, 14, 9, 7, 35) := ⟨by decide, _, rfl, ⟨rfl, (RX9, TX9, 14), .int, rfl, by decide, xtb 277 (by decide +kernel) rfl, rfl, (fun h => by cases h), by decide +kernel, rfl⟩⟩
theorem lk_530 : xLq RX9 (3, 1, 9, 8, 38) := ⟨by decide, _, rfl, ⟨rfl, (RX9, TX9, 14), rfl, by decide, xtb 279 (by decide +kernel) rfl⟩⟩
theorem lk_531 : xLq RX9 (3, 1, 9, 9, 86) := ⟨by decide, _, rfl, ⟨rfl, (RX9, TX9, 14), rfl, by decide, xtb 283 (by decide +kernel) rfl⟩⟩
theorem lk_532 : xLq RX9 (3, 14, 9, 9, 86) := ⟨by decide, _, rfl, ⟨rfl, (RX9, TX9, 14), .int, rfl, by decide, xtb 283 (by decide +kernel) rfl, rfl, (fun h => by cases h), by decide +kernel, rfl⟩⟩
theorem lk_533 : xLq RX9 (3, 1, 9, 10, 41) := ⟨by decide, _, rfl, ⟨rfl, (RX9, TX9, 14), rfl, by decide, xtb 286 (by decide +kernel) rfl⟩⟩
theorem lk_534 : xLq RX9 (3, 1, 9, 11, 46) := ⟨by decide, _, rfl, ⟨rfl, (RX9, TX9, 14), rfl, by decide, xtb 288 (by decide +kernel) rfl⟩⟩
theorem lk_535 : xLq RX9 (3, 1, 9, 12, 51) := ⟨by decide, _, rfl, ⟨rfl, (RX9, TX9, 14), rfl, by decide, xtb 290 (by decide +kernel) rfl⟩⟩
theorem lk_536 : xLq RX9 (3, 1, 9, 13, 54) := ⟨by decide, _, rfl, ⟨rfl, (RX9, TX9, 14), rfl, by decide, xtb 293 (by decide +kernel) rfl⟩⟩
theorem lk_537 : xLq RX9 (3, 1, 5, 3, 63) := ⟨by decide, _, rfl, ⟨rfl, (RX5, TX5, 4), rfl, by decide, xtb 181 (by decide +kernel) rfl⟩⟩
theorem lk_538 : xLq RX9 (3, 13, 206, 40, 66) := ⟨by decide, _, rfl, ⟨rfl, mX5_get, rfl, xtb 1049 (by decide +kernel) rfl, xtb 807 (by decide +kernel) rfl, xtb 808 (by decide +kernel) rfl, (RX5, TX5, 4), rfl, rfl⟩⟩
theorem lk_539 : xLq RX9 (3, 25, 0, 0, 3) := ⟨by decide, _, rfl, ⟨rfl, xtb 160 (by decide +kernel) rfl⟩⟩
theorem lk_540 : xLq RX9 (3, 61, 9, 0, 11) := ⟨by decide, _, rfl, ⟨rfl, (RX9, TX9, 14), .array .byte, rfl, by decide, xtb 255 (by decide +kernel) rfl, rfl, (fun _ => rfl), by decide +kernel, Or.inr ⟨_, rfl⟩⟩⟩
theorem lk_541 : xLq RX9 (3, 24, 1, 0, 19) := ⟨by decide, _, rfl, ⟨rfl, (RX1, TX1, 10), rfl, xtb 161 (by decide +kernel) rfl, xtb 162 (by decide +kernel) rfl, xtb 128 (by decide +kernel) rfl⟩⟩
theorem lk_542 : xLq RX9 (3, 13, 182, 13, 21) := ⟨by decide, _, rfl, ⟨rfl, mX1_init, rfl, "BentScreens", List.mem_of_getElem? (i := 163) (by decide +kernel), rfl, rfl, rfl, xtb 164 (by decide +kernel) rfl⟩⟩
theorem lk_543 : xLq RX9 (3, 61, 9, 4, 22) := ⟨by decide, _, rfl, ⟨rfl, (RX9, TX9, 14), .object "BentScreens$Film", rfl, by decide, xtb 266 (by decide +kernel) rfl, rfl, (fun _ => rfl), by decide +kernel, Or.inl ⟨_, rfl⟩⟩⟩
theorem lk_544 : xLq RX9 (3, 24, 5, 0, 26) := ⟨by decide, _, rfl, ⟨rfl, (RX5, TX5, 4), rfl, xtb 253 (by decide +kernel) rfl, xtb 168 (by decide +kernel) rfl, xtb 129 (by decide +kernel) rfl⟩⟩
theorem lk_545 : xLq RX9 (3, 13, 209, 44, 28) := ⟨by decide, _, rfl, ⟨rfl, mX5_init, rfl, xtb 254 (by decide +kernel) rfl, rfl, rfl, rfl, xtb 170 (by decide +kernel) rfl⟩⟩
theorem lk_546 : xLq RX9 (3, 61, 9, 5, 31) := ⟨by decide, _, rfl, ⟨rfl, (RX9, TX9, 14), .object "BentScreens$Rows", rfl, by decide, xtb 271 (by decide +kernel) rfl, rfl, (fun _ => rfl), by decide +kernel, Or.inl ⟨_, rfl⟩⟩⟩
theorem lk_547 : xLq RX9 (3, 61, 9, 8, 38) := ⟨by decide, _, rfl, ⟨rfl, (RX9, TX9, 14), .object "BentScreens$Rows", rfl, by decide, xtb 279 (by decide +kernel) rfl, rfl, (fun _ => rfl), by decide +kernel, Or.inl ⟨_, rfl⟩⟩⟩
theorem lk_548 : xLq RX9 (3, 61, 9, 10, 41) := ⟨by decide, _, rfl, ⟨rfl, (RX9, TX9, 14), .object "BentScreens$Rows", rfl, by decide, xtb 286 (by decide +kernel) rfl, rfl, (fun _ => rfl), by decide +kernel, Or.inl ⟨_, rfl⟩⟩⟩
theorem lk_549 : xLq RX9 (3, 61, 9, 11, 46) := ⟨by decide, _, rfl, ⟨rfl, (RX9, TX9, 14), .object "BentScreens$Rows", rfl, by decide, xtb 288 (by decide +kernel) rfl, rfl, (fun _ => rfl), by decide +kernel, Or.inl ⟨_, rfl⟩⟩⟩
theorem lk_550 : xLq RX9 (3, 61, 9, 12, 51) := ⟨by decide, _, rfl, ⟨rfl, (RX9, TX9, 14), .object "BentScreens$Rows", rfl, by decide, xtb 290 (by decide +kernel) rfl, rfl, (fun _ => rfl), by decide +kernel, Or.inl ⟨_, rfl⟩⟩⟩
theorem lk_551 : xLq RX9 (3, 61, 9, 13, 54) := ⟨by decide, _, rfl, ⟨rfl, (RX9, TX9, 14), .object "BentScreens$Rows", rfl, by decide, xtb 293 (by decide +kernel) rfl, rfl, (fun _ => rfl), by decide +kernel, Or.inl ⟨_, rfl⟩⟩⟩
