theorem lk_330 : xLq RX12 (3, 13, 113, 96, 305) := ⟨by decide, _, rfl, ⟨rfl, mX12_allRows, rfl, xtb 1898 (by decide +kernel) rfl, xtb 1900 (by decide +kernel) rfl, xtb 83 (by decide +kernel) rfl, (RX12, TX12, 47), rfl, rfl⟩⟩
theorem lk_331 : xLq RX12 (3, 13, 147, 96, 308) := ⟨by decide, _, rfl, ⟨rfl, mX12_flows, rfl, xtb 1902 (by decide +kernel) rfl, xtb 1904 (by decide +kernel) rfl, xtb 84 (by decide +kernel) rfl, (RX12, TX12, 47), rfl, rfl⟩⟩
theorem lk_332 : xLq RX12 (3, 13, 224, 96, 296) := ⟨by decide, _, rfl, ⟨rfl, mX12_spreads, rfl, xtb 1906 (by decide +kernel) rfl, xtb 1908 (by decide +kernel) rfl, xtb 85 (by decide +kernel) rfl, (RX12, TX12, 47), rfl, rfl⟩⟩
theorem lk_333 : xLq RX12 (3, 13, 169, 96, 323) := ⟨by decide, _, rfl, ⟨rfl, mX12_isPoint, rfl, xtb 1954 (by decide +kernel) rfl, xtb 1956 (by decide +kernel) rfl, xtb 92 (by decide +kernel) rfl, (RX12, TX12, 47), rfl, rfl⟩⟩
theorem lk_334 : xLq RX12 (3, 13, 134, 96, 335) := ⟨by decide, _, rfl, ⟨rfl, mX12_damps, rfl, xtb 1978 (by decide +kernel) rfl, xtb 1980 (by decide +kernel) rfl, xtb 95 (by decide +kernel) rfl, (RX12, TX12, 47), rfl, rfl⟩⟩
theorem lk_335 : xLq RX12 (3, 1, 12, 35, 75) := ⟨by decide, _, rfl, ⟨rfl, (RX12, TX12, 47), rfl, by decide, xtb 1573 (by decide +kernel) rfl⟩⟩
theorem lk_336 : xLq RX12 (3, 1, 12, 36, 78) := ⟨by decide, _, rfl, ⟨rfl, (RX12, TX12, 47), rfl, by decide, xtb 1574 (by decide +kernel) rfl⟩⟩
theorem lk_337 : xLq RX12 (3, 13, 237, 96, 332) := ⟨by decide, _, rfl, ⟨rfl, mX12_wetAt, rfl, xtb 1982 (by decide +kernel) rfl, xtb 1984 (by decide +kernel) rfl, xtb 96 (by decide +kernel) rfl, (RX12, TX12, 47), rfl, rfl⟩⟩
theorem lk_338 : xLq RX12 (3, 13, 136, 96, 338) := ⟨by decide, _, rfl, ⟨rfl, mX12_darkens, rfl, xtb 1990 (by decide +kernel) rfl, xtb 1992 (by decide +kernel) rfl, xtb 97 (by decide +kernel) rfl, (RX12, TX12, 47), rfl, rfl⟩⟩
theorem lk_339 : xLq RX12 (3, 13, 158, 96, 341) := ⟨by decide, _, rfl, ⟨rfl, mX12_isDark, rfl, xtb 1994 (by decide +kernel) rfl, xtb 1996 (by decide +kernel) rfl, xtb 98 (by decide +kernel) rfl, (RX12, TX12, 47), rfl, rfl⟩⟩
theorem lk_340 : xLq RX12 (3, 13, 112, 96, 326) := ⟨by decide, _, rfl, ⟨rfl, mX12_ages, rfl, xtb 1958 (by decide +kernel) rfl, xtb 1960 (by decide +kernel) rfl, xtb 93 (by decide +kernel) rfl, (RX12, TX12, 47), rfl, rfl⟩⟩
theorem lk_341 : xLq RX12 (3, 13, 143, 96, 311) := ⟨by decide, _, rfl, ⟨rfl, mX12_fedRows, rfl, xtb 1922 (by decide +kernel) rfl, xtb 1924 (by decide +kernel) rfl, xtb 88 (by decide +kernel) rfl, (RX12, TX12, 47), rfl, rfl⟩⟩
theorem lk_342 : xLq RX12 (3, 13, 121, 96, 215) := ⟨by decide, _, rfl, ⟨rfl, mX12_begins, rfl, xtb 1692 (by decide +kernel) rfl, xtb 1694 (by decide +kernel) rfl, xtb 57 (by decide +kernel) rfl, (RX12, TX12, 47), rfl, rfl⟩⟩
theorem lk_343 : xLq RX12 (3, 1, 12, 12, 20) := ⟨by decide, _, rfl, ⟨rfl, (RX12, TX12, 47), rfl, by decide, xtb 1550 (by decide +kernel) rfl⟩⟩
theorem lk_344 : xLq RX12 (3, 13, 107, 96, 219) := ⟨by decide, _, rfl, ⟨rfl, mX12_aLine, rfl, xtb 1736 (by decide +kernel) rfl, xtb 1738 (by decide +kernel) rfl, xtb 61 (by decide +kernel) rfl, (RX12, TX12, 47), rfl, rfl⟩⟩
theorem lk_345 : xLq RX12 (3, 13, 148, 98, 121) := ⟨by decide, _, rfl, ⟨rfl, mX12_four, rfl, xtb 1722 (by decide +kernel) rfl, xtb 1723 (by decide +kernel) rfl⟩⟩
theorem lk_346 : xLq RX12 (3, 1, 12, 25, 48) := ⟨by decide, _, rfl, ⟨rfl, (RX12, TX12, 47), rfl, by decide, xtb 1563 (by decide +kernel) rfl⟩⟩
theorem lk_347 : xLq RX12 (3, 1, 12, 26, 51) := ⟨by decide, _, rfl, ⟨rfl, (RX12, TX12, 47), rfl, by decide, xtb 1564 (by decide +kernel) rfl⟩⟩
theorem lk_348 : xLq RX12 (3, 1, 12, 27, 54) := ⟨by decide, _, rfl, ⟨rfl, (RX12, TX12, 47), rfl, by decide, xtb 1565 (by decide +kernel) rfl⟩⟩
theorem lk_349 : xLq RX12 (3, 1, 12, 28, 57) := ⟨by decide, _, rfl, ⟨rfl, (RX12, TX12, 47), rfl, by decide, xtb 1566 (by decide +kernel) rfl⟩⟩
theorem lk_350 : xLq RX12 (3, 1, 12, 32, 69) := ⟨by decide, _, rfl, ⟨rfl, (RX12, TX12, 47), rfl, by decide, xtb 1570 (by decide +kernel) rfl⟩⟩
theorem lk_351 : xLq RX12 (3, 13, 149, 96, 299) := ⟨by decide, _, rfl, ⟨rfl, mX12_goesBack, rfl, xtb 1914 (by decide +kernel) rfl, xtb 1916 (by decide +kernel) rfl, xtb 87 (by decide +kernel) rfl, (RX12, TX12, 47), rfl, rfl⟩⟩
theorem lk_352 : xLq RX12 (3, 13, 229, 98, 117) := ⟨by decide, _, rfl, ⟨rfl, mX12_three, rfl, xtb 1712 (by decide +kernel) rfl, xtb 1713 (by decide +kernel) rfl⟩⟩
theorem lk_353 : xLq RX12 (3, 13, 117, 96, 447) := ⟨by decide, _, rfl, ⟨rfl, mX12_asked, rfl, xtb 2185 (by decide +kernel) rfl, xtb 2187 (by decide +kernel) rfl, xtb 123 (by decide +kernel) rfl, (RX12, TX12, 47), rfl, rfl⟩⟩
theorem lk_354 : xLq RX12 (3, 1, 12, 15, 26) := ⟨by decide, _, rfl, ⟨rfl, (RX12, TX12, 47), rfl, by decide, xtb 1553 (by decide +kernel) rfl⟩⟩
theorem lk_355 : xLq RX12 (3, 25, 0, 0, 1) := ⟨by decide, _, rfl, ⟨rfl, xtb 1537 (by decide +kernel) rfl⟩⟩
theorem lk_356 : xLq RX12 (3, 61, 12, 0, 7) := ⟨by decide, _, rfl, ⟨rfl, (RX12, TX12, 47), .array .int, rfl, by decide, xtb 1538 (by decide +kernel) rfl, rfl, (fun _ => rfl), by decide +kernel, Or.inr ⟨_, rfl⟩⟩⟩
theorem lk_357 : xLq RX12 (3, 61, 12, 1, 13) := ⟨by decide, _, rfl, ⟨rfl, (RX12, TX12, 47), .array .boolean, rfl, by decide, xtb 1539 (by decide +kernel) rfl, rfl, (fun _ => rfl), by decide +kernel, Or.inr ⟨_, rfl⟩⟩⟩
theorem lk_358 : xLq RX12 (3, 61, 12, 11, 17) := ⟨by decide, _, rfl, ⟨rfl, (RX12, TX12, 47), .array .int, rfl, by decide, xtb 1549 (by decide +kernel) rfl, rfl, (fun _ => rfl), by decide +kernel, Or.inr ⟨_, rfl⟩⟩⟩
theorem lk_359 : xLq RX12 (3, 61, 12, 12, 20) := ⟨by decide, _, rfl, ⟨rfl, (RX12, TX12, 47), .array .int, rfl, by decide, xtb 1550 (by decide +kernel) rfl, rfl, (fun _ => rfl), by decide +kernel, Or.inr ⟨_, rfl⟩⟩⟩
theorem lk_360 : xLq RX12 (3, 61, 12, 13, 23) := ⟨by decide, _, rfl, ⟨rfl, (RX12, TX12, 47), .array .int, rfl, by decide, xtb 1551 (by decide +kernel) rfl, rfl, (fun _ => rfl), by decide +kernel, Or.inr ⟨_, rfl⟩⟩⟩
theorem lk_361 : xLq RX12 (3, 61, 12, 15, 26) := ⟨by decide, _, rfl, ⟨rfl, (RX12, TX12, 47), .array .int, rfl, by decide, xtb 1553 (by decide +kernel) rfl, rfl, (fun _ => rfl), by decide +kernel, Or.inr ⟨_, rfl⟩⟩⟩
theorem lk_362 : xLq RX12 (3, 61, 12, 16, 29) := ⟨by decide, _, rfl, ⟨rfl, (RX12, TX12, 47), .array .int, rfl, by decide, xtb 1554 (by decide +kernel) rfl, rfl, (fun _ => rfl), by decide +kernel, Or.inr ⟨_, rfl⟩⟩⟩
theorem lk_363 : xLq RX12 (3, 61, 12, 17, 32) := ⟨by decide, _, rfl, ⟨rfl, (RX12, TX12, 47), .array .int, rfl, by decide, xtb 1555 (by decide +kernel) rfl, rfl, (fun _ => rfl), by decide +kernel, Or.inr ⟨_, rfl⟩⟩⟩
theorem lk_364 : xLq RX12 (3, 61, 12, 18, 35) := ⟨by decide, _, rfl, ⟨rfl, (RX12, TX12, 47), .array .int, rfl, by decide, xtb 1556 (by decide +kernel) rfl, rfl, (fun _ => rfl), by decide +kernel, Or.inr ⟨_, rfl⟩⟩⟩
theorem lk_365 : xLq RX12 (3, 61, 12, 19, 38) := ⟨by decide, _, rfl, ⟨rfl, (RX12, TX12, 47), .array .long, rfl, by decide, xtb 1557 (by decide +kernel) rfl, rfl, (fun _ => rfl), by decide +kernel, Or.inr ⟨_, rfl⟩⟩⟩
theorem lk_366 : xLq RX12 (3, 61, 12, 20, 42) := ⟨by decide, _, rfl, ⟨rfl, (RX12, TX12, 47), .array .long, rfl, by decide, xtb 1558 (by decide +kernel) rfl, rfl, (fun _ => rfl), by decide +kernel, Or.inr ⟨_, rfl⟩⟩⟩
theorem lk_367 : xLq RX12 (3, 61, 12, 21, 45) := ⟨by decide, _, rfl, ⟨rfl, (RX12, TX12, 47), .array .long, rfl, by decide, xtb 1559 (by decide +kernel) rfl, rfl, (fun _ => rfl), by decide +kernel, Or.inr ⟨_, rfl⟩⟩⟩
theorem lk_368 : xLq RX12 (3, 61, 12, 25, 48) := ⟨by decide, _, rfl, ⟨rfl, (RX12, TX12, 47), .array .int, rfl, by decide, xtb 1563 (by decide +kernel) rfl, rfl, (fun _ => rfl), by decide +kernel, Or.inr ⟨_, rfl⟩⟩⟩
theorem lk_369 : xLq RX12 (3, 61, 12, 26, 51) := ⟨by decide, _, rfl, ⟨rfl, (RX12, TX12, 47), .array .int, rfl, by decide, xtb 1564 (by decide +kernel) rfl, rfl, (fun _ => rfl), by decide +kernel, Or.inr ⟨_, rfl⟩⟩⟩
theorem lk_370 : xLq RX12 (3, 61, 12, 27, 54) := ⟨by decide, _, rfl, ⟨rfl, (RX12, TX12, 47), .array .int, rfl, by decide, xtb 1565 (by decide +kernel) rfl, rfl, (fun _ => rfl), by decide +kernel, Or.inr ⟨_, rfl⟩⟩⟩
theorem lk_371 : xLq RX12 (3, 61, 12, 28, 57) := ⟨by decide, _, rfl, ⟨rfl, (RX12, TX12, 47), .array .int, rfl, by decide, xtb 1566 (by decide +kernel) rfl, rfl, (fun _ => rfl), by decide +kernel, Or.inr ⟨_, rfl⟩⟩⟩
theorem lk_372 : xLq RX12 (3, 61, 12, 29, 60) := ⟨by decide, _, rfl, ⟨rfl, (RX12, TX12, 47), .array .boolean, rfl, by decide, xtb 1567 (by decide +kernel) rfl, rfl, (fun _ => rfl), by decide +kernel, Or.inr ⟨_, rfl⟩⟩⟩
theorem lk_373 : xLq RX12 (3, 61, 12, 30, 63) := ⟨by decide, _, rfl, ⟨rfl, (RX12, TX12, 47), .array .boolean, rfl, by decide, xtb 1568 (by decide +kernel) rfl, rfl, (fun _ => rfl), by decide +kernel, Or.inr ⟨_, rfl⟩⟩⟩
theorem lk_374 : xLq RX12 (3, 61, 12, 31, 66) := ⟨by decide, _, rfl, ⟨rfl, (RX12, TX12, 47), .array .int, rfl, by decide, xtb 1569 (by decide +kernel) rfl, rfl, (fun _ => rfl), by decide +kernel, Or.inr ⟨_, rfl⟩⟩⟩
theorem lk_375 : xLq RX12 (3, 61, 12, 32, 69) := ⟨by decide, _, rfl, ⟨rfl, (RX12, TX12, 47), .array .int, rfl, by decide, xtb 1570 (by decide +kernel) rfl, rfl, (fun _ => rfl), by decide +kernel, Or.inr ⟨_, rfl⟩⟩⟩
theorem lk_376 : xLq RX12 (3, 61, 12, 34, 72) := ⟨by decide, _, rfl, ⟨rfl, (RX12, TX12, 47), .array .int, rfl, by decide, xtb 1572 (by decide +kernel) rfl, rfl, (fun _ => rfl), by decide +kernel, Or.inr ⟨_, rfl⟩⟩⟩
theorem lk_377 : xLq RX12 (3, 61, 12, 35, 75) := ⟨by decide, _, rfl, ⟨rfl, (RX12, TX12, 47), .array .int, rfl, by decide, xtb 1573 (by decide +kernel) rfl, rfl, (fun _ => rfl), by decide +kernel, Or.inr ⟨_, rfl⟩⟩⟩
theorem lk_378 : xLq RX12 (3, 61, 12, 36, 78) := ⟨by decide, _, rfl, ⟨rfl, (RX12, TX12, 47), .array .int, rfl, by decide, xtb 1574 (by decide +kernel) rfl, rfl, (fun _ => rfl), by decide +kernel, Or.inr ⟨_, rfl⟩⟩⟩
theorem lk_379 : xLq RX12 (3, 61, 12, 37, 81) := ⟨by decide, _, rfl, ⟨rfl, (RX12, TX12, 47), .array .int, rfl, by decide, xtb 1575 (by decide +kernel) rfl, rfl, (fun _ => rfl), by decide +kernel, Or.inr ⟨_, rfl⟩⟩⟩
theorem lk_380 : xLq RX12 (3, 61, 12, 38, 84) := ⟨by decide, _, rfl, ⟨rfl, (RX12, TX12, 47), .array .boolean, rfl, by decide, xtb 1576 (by decide +kernel) rfl, rfl, (fun _ => rfl), by decide +kernel, Or.inr ⟨_, rfl⟩⟩⟩
theorem lk_381 : xLq RX12 (3, 61, 12, 39, 87) := ⟨by decide, _, rfl, ⟨rfl, (RX12, TX12, 47), .array .int, rfl, by decide, xtb 1577 (by decide +kernel) rfl, rfl, (fun _ => rfl), by decide +kernel, Or.inr ⟨_, rfl⟩⟩⟩
theorem lk_382 : xLq RX12 (3, 61, 12, 40, 90) := ⟨by decide, _, rfl, ⟨rfl, (RX12, TX12, 47), .array .int, rfl, by decide, xtb 1578 (by decide +kernel) rfl, rfl, (fun _ => rfl), by decide +kernel, Or.inr ⟨_, rfl⟩⟩⟩
theorem lk_383 : xLq RX12 (3, 61, 12, 43, 93) := ⟨by decide, _, rfl, ⟨rfl, (RX12, TX12, 47), .array .int, rfl, by decide, xtb 1581 (by decide +kernel) rfl, rfl, (fun _ => rfl), by decide +kernel, Or.inr ⟨_, rfl⟩⟩⟩
theorem lk_384 : xLq RX12 (3, 61, 12, 44, 96) := ⟨by decide, _, rfl, ⟨rfl, (RX12, TX12, 47), .array .int, rfl, by decide, xtb 1582 (by decide +kernel) rfl, rfl, (fun _ => rfl), by decide +kernel, Or.inr ⟨_, rfl⟩⟩⟩
theorem lk_385 : xLq RX12 (3, 61, 12, 45, 99) := ⟨by decide, _, rfl, ⟨rfl, (RX12, TX12, 47), .array .int, rfl, by decide, xtb 1583 (by decide +kernel) rfl, rfl, (fun _ => rfl), by decide +kernel, Or.inr ⟨_, rfl⟩⟩⟩
theorem lk_386 : xLq RX12 (3, 61, 12, 46, 102) := ⟨by decide, _, rfl, ⟨rfl, (RX12, TX12, 47), .array .int, rfl, by decide, xtb 1584 (by decide +kernel) rfl, rfl, (fun _ => rfl), by decide +kernel, Or.inr ⟨_, rfl⟩⟩⟩
theorem lk_387 : xLq RX12 (3, 1, 12, 24, 276) := ⟨by decide, _, rfl, ⟨rfl, (RX12, TX12, 47), rfl, by decide, xtb 1562 (by decide +kernel) rfl⟩⟩
theorem lk_388 : xLq RX12 (3, 13, 187, 96, 329) := ⟨by decide, _, rfl, ⟨rfl, mX12_leftOf, rfl, xtb 1962 (by decide +kernel) rfl, xtb 1964 (by decide +kernel) rfl, xtb 94 (by decide +kernel) rfl, (RX12, TX12, 47), rfl, rfl⟩⟩
theorem lk_389 : xLq RX12 (3, 14, 12, 24, 276) := ⟨by decide, _, rfl, ⟨rfl, (RX12, TX12, 47), .int, rfl, by decide, xtb 1562 (by decide +kernel) rfl, rfl, (fun h => by cases h), by decide +kernel, rfl⟩⟩
theorem lk_390 : xLq RX12 (3, 1, 12, 29, 60) := ⟨by decide, _, rfl, ⟨rfl, (RX12, TX12, 47), rfl, by decide, xtb 1567 (by decide +kernel) rfl⟩⟩
theorem lk_391 : xLq RX12 (3, 13, 163, 96, 314) := ⟨by decide, _, rfl, ⟨rfl, mX12_isJoined, rfl, xtb 1938 (by decide +kernel) rfl, xtb 1940 (by decide +kernel) rfl, xtb 91 (by decide +kernel) rfl, (RX12, TX12, 47), rfl, rfl⟩⟩
theorem lk_392 : xLq RX12 (3, 1, 12, 30, 63) := ⟨by decide, _, rfl, ⟨rfl, (RX12, TX12, 47), rfl, by decide, xtb 1568 (by decide +kernel) rfl⟩⟩
theorem lk_393 : xLq RX12 (3, 1, 12, 44, 96) := ⟨by decide, _, rfl, ⟨rfl, (RX12, TX12, 47), rfl, by decide, xtb 1582 (by decide +kernel) rfl⟩⟩
theorem lk_394 : xLq RX12 (3, 13, 114, 96, 400) := ⟨by decide, _, rfl, ⟨rfl, mX12_allTests, rfl, xtb 2125 (by decide +kernel) rfl, xtb 2127 (by decide +kernel) rfl, xtb 114 (by decide +kernel) rfl, (RX12, TX12, 47), rfl, rfl⟩⟩
theorem lk_395 : xLq RX12 (3, 13, 179, 98, 397) := ⟨by decide, _, rfl, ⟨rfl, mX12_lawAt, rfl, xtb 2118 (by decide +kernel) rfl, xtb 2119 (by decide +kernel) rfl⟩⟩
theorem lk_396 : xLq RX12 (3, 13, 177, 96, 393) := ⟨by decide, _, rfl, ⟨rfl, mX12_lastsOf, rfl, xtb 2093 (by decide +kernel) rfl, xtb 2095 (by decide +kernel) rfl, xtb 110 (by decide +kernel) rfl, (RX12, TX12, 47), rfl, rfl⟩⟩
theorem lk_397 : xLq RX12 (3, 1, 12, 43, 93) := ⟨by decide, _, rfl, ⟨rfl, (RX12, TX12, 47), rfl, by decide, xtb 1581 (by decide +kernel) rfl⟩⟩
theorem lk_398 : xLq RX12 (3, 13, 174, 96, 403) := ⟨by decide, _, rfl, ⟨rfl, mX12_keeps, rfl, xtb 2114 (by decide +kernel) rfl, xtb 2116 (by decide +kernel) rfl, xtb 112 (by decide +kernel) rfl, (RX12, TX12, 47), rfl, rfl⟩⟩
theorem lk_399 : xLq RX12 (3, 13, 164, 96, 406) := ⟨by decide, _, rfl, ⟨rfl, mX12_isLaw, rfl, xtb 2121 (by decide +kernel) rfl, xtb 2123 (by decide +kernel) rfl, xtb 113 (by decide +kernel) rfl, (RX12, TX12, 47), rfl, rfl⟩⟩
theorem lk_400 : xLq RX12 (3, 1, 12, 39, 87) := ⟨by decide, _, rfl, ⟨rfl, (RX12, TX12, 47), rfl, by decide, xtb 1577 (by decide +kernel) rfl⟩⟩
theorem lk_401 : xLq RX12 (3, 1, 12, 42, 361) := ⟨by decide, _, rfl, ⟨rfl, (RX12, TX12, 47), rfl, by decide, xtb 1580 (by decide +kernel) rfl⟩⟩
theorem lk_402 : xLq RX12 (3, 13, 118, 98, 344) := ⟨by decide, _, rfl, ⟨rfl, mX12_at, rfl, xtb 2010 (by decide +kernel) rfl, xtb 2011 (by decide +kernel) rfl⟩⟩
theorem lk_403 : xLq RX12 (3, 14, 12, 42, 361) := ⟨by decide, _, rfl, ⟨rfl, (RX12, TX12, 47), .int, rfl, by decide, xtb 1580 (by decide +kernel) rfl, rfl, (fun h => by cases h), by decide +kernel, rfl⟩⟩
theorem lk_404 : xLq RX12 (3, 13, 165, 96, 287) := ⟨by decide, _, rfl, ⟨rfl, mX12_isLed, rfl, xtb 1886 (by decide +kernel) rfl, xtb 1888 (by decide +kernel) rfl, xtb 81 (by decide +kernel) rfl, (RX12, TX12, 47), rfl, rfl⟩⟩
theorem lk_405 : xLq RX12 (3, 13, 185, 96, 253) := ⟨by decide, _, rfl, ⟨rfl, mX12_leastNow, rfl, xtb 1825 (by decide +kernel) rfl, xtb 1827 (by decide +kernel) rfl, xtb 74 (by decide +kernel) rfl, (RX12, TX12, 47), rfl, rfl⟩⟩
theorem lk_406 : xLq RX12 (3, 52, 9999, 0, 233) := ⟨by decide, _, rfl, ⟨rfl, xtb 1829 (by decide +kernel) rfl⟩⟩
theorem lk_407 : xLq RX12 (3, 1, 12, 31, 66) := ⟨by decide, _, rfl, ⟨rfl, (RX12, TX12, 47), rfl, by decide, xtb 1569 (by decide +kernel) rfl⟩⟩
theorem lk_408 : xLq RX12 (3, 1, 12, 33, 290) := ⟨by decide, _, rfl, ⟨rfl, (RX12, TX12, 47), rfl, by decide, xtb 1571 (by decide +kernel) rfl⟩⟩
theorem lk_409 : xLq RX12 (3, 14, 12, 33, 290) := ⟨by decide, _, rfl, ⟨rfl, (RX12, TX12, 47), .int, rfl, by decide, xtb 1571 (by decide +kernel) rfl, rfl, (fun h => by cases h), by decide +kernel, rfl⟩⟩
theorem lk_410 : xLq RX12 (3, 13, 200, 98, 379) := ⟨by decide, _, rfl, ⟨rfl, mX12_ones, rfl, xtb 2057 (by decide +kernel) rfl, xtb 2058 (by decide +kernel) rfl⟩⟩
theorem lk_411 : xLq RX12 (3, 13, 160, 96, 382) := ⟨by decide, _, rfl, ⟨rfl, mX12_isFedBy, rfl, xtb 2060 (by decide +kernel) rfl, xtb 2062 (by decide +kernel) rfl, xtb 107 (by decide +kernel) rfl, (RX12, TX12, 47), rfl, rfl⟩⟩
theorem lk_412 : xLq RX12 (3, 1, 12, 16, 29) := ⟨by decide, _, rfl, ⟨rfl, (RX12, TX12, 47), rfl, by decide, xtb 1554 (by decide +kernel) rfl⟩⟩
theorem lk_413 : xLq RX12 (3, 13, 213, 96, 260) := ⟨by decide, _, rfl, ⟨rfl, mX12_reorders, rfl, xtb 1838 (by decide +kernel) rfl, xtb 1840 (by decide +kernel) rfl, xtb 75 (by decide +kernel) rfl, (RX12, TX12, 47), rfl, rfl⟩⟩
theorem lk_414 : xLq RX12 (3, 13, 207, 96, 373) := ⟨by decide, _, rfl, ⟨rfl, mX12_plans, rfl, xtb 2029 (by decide +kernel) rfl, xtb 2031 (by decide +kernel) rfl, xtb 103 (by decide +kernel) rfl, (RX12, TX12, 47), rfl, rfl⟩⟩
theorem lk_415 : xLq RX12 (3, 1, 12, 41, 364) := ⟨by decide, _, rfl, ⟨rfl, (RX12, TX12, 47), rfl, by decide, xtb 1579 (by decide +kernel) rfl⟩⟩
theorem lk_416 : xLq RX12 (3, 1, 12, 40, 90) := ⟨by decide, _, rfl, ⟨rfl, (RX12, TX12, 47), rfl, by decide, xtb 1578 (by decide +kernel) rfl⟩⟩
theorem lk_417 : xLq RX12 (3, 1, 12, 38, 84) := ⟨by decide, _, rfl, ⟨rfl, (RX12, TX12, 47), rfl, by decide, xtb 1576 (by decide +kernel) rfl⟩⟩
theorem lk_418 : xLq RX12 (3, 13, 203, 96, 348) := ⟨by decide, _, rfl, ⟨rfl, mX12_panelOf, rfl, xtb 2021 (by decide +kernel) rfl, xtb 2023 (by decide +kernel) rfl, xtb 102 (by decide +kernel) rfl, (RX12, TX12, 47), rfl, rfl⟩⟩
theorem lk_419 : xLq RX12 (3, 1, 12, 37, 81) := ⟨by decide, _, rfl, ⟨rfl, (RX12, TX12, 47), rfl, by decide, xtb 1575 (by decide +kernel) rfl⟩⟩
theorem lk_420 : xLq RX12 (3, 13, 234, 96, 358) := ⟨by decide, _, rfl, ⟨rfl, mX12_values, rfl, xtb 2006 (by decide +kernel) rfl, xtb 2008 (by decide +kernel) rfl, xtb 99 (by decide +kernel) rfl, (RX12, TX12, 47), rfl, rfl⟩⟩
theorem lk_421 : xLq RX12 (3, 14, 12, 41, 364) := ⟨by decide, _, rfl, ⟨rfl, (RX12, TX12, 47), .int, rfl, by decide, xtb 1579 (by decide +kernel) rfl, rfl, (fun h => by cases h), by decide +kernel, rfl⟩⟩
theorem lk_422 : xLq RX12 (3, 13, 182, 96, 367) := ⟨by decide, _, rfl, ⟨rfl, mX12_lays, rfl, xtb 2033 (by decide +kernel) rfl, xtb 2035 (by decide +kernel) rfl, xtb 104 (by decide +kernel) rfl, (RX12, TX12, 47), rfl, rfl⟩⟩
theorem lk_423 : xLq RX12 (3, 13, 208, 96, 370) := ⟨by decide, _, rfl, ⟨rfl, mX12_plansOne, rfl, xtb 2037 (by decide +kernel) rfl, xtb 2039 (by decide +kernel) rfl, xtb 105 (by decide +kernel) rfl, (RX12, TX12, 47), rfl, rfl⟩⟩
theorem lk_424 : xLq RX12 (3, 13, 218, 96, 390) := ⟨by decide, _, rfl, ⟨rfl, mX12_shareOf, rfl, xtb 2081 (by decide +kernel) rfl, xtb 2083 (by decide +kernel) rfl, xtb 109 (by decide +kernel) rfl, (RX12, TX12, 47), rfl, rfl⟩⟩
theorem lk_425 : xLq RX12 (3, 13, 170, 96, 412) := ⟨by decide, _, rfl, ⟨rfl, mX12_isQuarrel, rfl, xtb 2141 (by decide +kernel) rfl, xtb 2143 (by decide +kernel) rfl, xtb 115 (by decide +kernel) rfl, (RX12, TX12, 47), rfl, rfl⟩⟩
theorem lk_426 : xLq RX12 (3, 13, 226, 96, 257) := ⟨by decide, _, rfl, ⟨rfl, mX12_swap, rfl, xtb 1842 (by decide +kernel) rfl, xtb 1844 (by decide +kernel) rfl, xtb 76 (by decide +kernel) rfl, (RX12, TX12, 47), rfl, rfl⟩⟩
theorem lk_427 : xLq RX12 (3, 1, 12, 45, 99) := ⟨by decide, _, rfl, ⟨rfl, (RX12, TX12, 47), rfl, by decide, xtb 1583 (by decide +kernel) rfl⟩⟩
theorem lk_428 : xLq RX12 (3, 13, 220, 98, 131) := ⟨by decide, _, rfl, ⟨rfl, mX12_six, rfl, xtb 1715 (by decide +kernel) rfl, xtb 1716 (by decide +kernel) rfl⟩⟩
theorem lk_429 : xLq RX12 (3, 13, 146, 98, 125) := ⟨by decide, _, rfl, ⟨rfl, mX12_five, rfl, xtb 1719 (by decide +kernel) rfl, xtb 1720 (by decide +kernel) rfl⟩⟩
theorem lk_430 : xLq RX12 (3, 52, 294, 0, 135) := ⟨by decide, _, rfl, ⟨rfl, xtb 1725 (by decide +kernel) rfl⟩⟩
theorem lk_431 : xLq RX12 (3, 13, 108, 96, 430) := ⟨by decide, _, rfl, ⟨rfl, mX12_aRule, rfl, xtb 2153 (by decide +kernel) rfl, xtb 2155 (by decide +kernel) rfl, xtb 116 (by decide +kernel) rfl, (RX12, TX12, 47), rfl, rfl⟩⟩
theorem lk_432 : xLq RX12 (3, 52, 32768, 0, 129) := ⟨by decide, _, rfl, ⟨rfl, xtb 1718 (by decide +kernel) rfl⟩⟩
theorem lk_433 : xLq RX12 (3, 13, 191, 96, 293) := ⟨by decide, _, rfl, ⟨rfl, mX12_meets, rfl, xtb 1910 (by decide +kernel) rfl, xtb 1912 (by decide +kernel) rfl, xtb 86 (by decide +kernel) rfl, (RX12, TX12, 47), rfl, rfl⟩⟩
theorem lk_434 : xLq RX12 (2, 35, 2294967296, 0, 250) := ⟨by decide, _, rfl, ⟨rfl, by decide, xtb 1815 (by decide +kernel) rfl⟩⟩
theorem lk_435 : xLq RX12 (3, 52, 1000000, 0, 251) := ⟨by decide, _, rfl, ⟨rfl, xtb 1816 (by decide +kernel) rfl⟩⟩
theorem lk_436 : xLq RX12 (3, 36, 999999, 0, 396) := ⟨by decide, _, rfl, ⟨rfl, by decide, xtb 2105 (by decide +kernel) rfl⟩⟩
theorem lk_437 : xLq RX12 (3, 71, 12, 23, 263) := ⟨by decide, _, rfl, ⟨rfl, (RX12, TX12, 47), .long, rfl, by decide, xtb 1561 (by decide +kernel) rfl, rfl, (fun h => by cases h), by decide +kernel, rfl⟩⟩
theorem lk_438 : xLq RX12 (3, 13, 151, 96, 351) := ⟨by decide, _, rfl, ⟨rfl, mX12_hasFlaw, rfl, xtb 2013 (by decide +kernel) rfl, xtb 2015 (by decide +kernel) rfl, xtb 100 (by decide +kernel) rfl, (RX12, TX12, 47), rfl, rfl⟩⟩
theorem lk_439 : xLq RX12 (3, 13, 206, 96, 355) := ⟨by decide, _, rfl, ⟨rfl, mX12_pieceOf, rfl, xtb 2017 (by decide +kernel) rfl, xtb 2019 (by decide +kernel) rfl, xtb 101 (by decide +kernel) rfl, (RX12, TX12, 47), rfl, rfl⟩⟩
theorem lk_440 : xLq RX1 (3, 1, 1, 0, 14) := ⟨by decide, _, rfl, ⟨rfl, (RX1, TX1, 10), rfl, by decide, xtb 197 (by decide +kernel) rfl⟩⟩
theorem lk_441 : xLq RX1 (3, 13, 283, 40, 50) := ⟨by decide, _, rfl, ⟨rfl, mX5_clear, rfl, xtb 678 (by decide +kernel) rfl, xtb 679 (by decide +kernel) rfl, xtb 680 (by decide +kernel) rfl, (RX5, TX5, 4), rfl, rfl⟩⟩
theorem lk_442 : xLq RX1 (3, 1, 1, 1, 18) := ⟨by decide, _, rfl, ⟨rfl, (RX1, TX1, 10), rfl, by decide, xtb 200 (by decide +kernel) rfl⟩⟩
theorem lk_443 : xLq RX1 (3, 1, 1, 2, 21) := ⟨by decide, _, rfl, ⟨rfl, (RX1, TX1, 10), rfl, by decide, xtb 203 (by decide +kernel) rfl⟩⟩
theorem lk_444 : xLq RX1 (3, 1, 1, 3, 24) := ⟨by decide, _, rfl, ⟨rfl, (RX1, TX1, 10), rfl, by decide, xtb 206 (by decide +kernel) rfl⟩⟩
theorem lk_445 : xLq RX1 (3, 1, 1, 4, 27) := ⟨by decide, _, rfl, ⟨rfl, (RX1, TX1, 10), rfl, by decide, xtb 208 (by decide +kernel) rfl⟩⟩
theorem lk_446 : xLq RX1 (3, 14, 1, 5, 30) := ⟨by decide, _, rfl, ⟨rfl, (RX1, TX1, 10), .int, rfl, by decide, xtb 211 (by decide +kernel) rfl, rfl, (fun h => by cases h), by decide +kernel, rfl⟩⟩
theorem lk_447 : xLq RX1 (3, 14, 1, 6, 34) := ⟨by decide, _, rfl, ⟨rfl, (RX1, TX1, 10), .int, rfl, by decide, xtb 215 (by decide +kernel) rfl, rfl, (fun h => by cases h), by decide +kernel, rfl⟩⟩
theorem lk_448 : xLq RX1 (3, 14, 1, 7, 37) := ⟨by decide, _, rfl, ⟨rfl, (RX1, TX1, 10), .int, rfl, by decide, xtb 219 (by decide +kernel) rfl, rfl, (fun h => by cases h), by decide +kernel, rfl⟩⟩
theorem lk_449 : xLq RX1 (3, 14, 1, 8, 40) := ⟨by decide, _, rfl, ⟨rfl, (RX1, TX1, 10), .int, rfl, by decide, xtb 224 (by decide +kernel) rfl, rfl, (fun h => by cases h), by decide +kernel, rfl⟩⟩
theorem lk_450 : xLq RX1 (3, 14, 1, 9, 53) := ⟨by decide, _, rfl, ⟨rfl, (RX1, TX1, 10), .int, rfl, by decide, xtb 230 (by decide +kernel) rfl, rfl, (fun h => by cases h), by decide +kernel, rfl⟩⟩
theorem lk_451 : xLq RX1 (3, 13, 284, 40, 56) := ⟨by decide, _, rfl, ⟨rfl, mX5_copy, rfl, xtb 846 (by decide +kernel) rfl, xtb 847 (by decide +kernel) rfl, xtb 848 (by decide +kernel) rfl, (RX5, TX5, 4), rfl, rfl⟩⟩
theorem lk_452 : xLq RX1 (3, 1, 1, 5, 30) := ⟨by decide, _, rfl, ⟨rfl, (RX1, TX1, 10), rfl, by decide, xtb 211 (by decide +kernel) rfl⟩⟩
theorem lk_453 : xLq RX1 (3, 1, 1, 6, 34) := ⟨by decide, _, rfl, ⟨rfl, (RX1, TX1, 10), rfl, by decide, xtb 215 (by decide +kernel) rfl⟩⟩
theorem lk_454 : xLq RX1 (3, 1, 1, 7, 37) := ⟨by decide, _, rfl, ⟨rfl, (RX1, TX1, 10), rfl, by decide, xtb 219 (by decide +kernel) rfl⟩⟩
theorem lk_455 : xLq RX1 (3, 1, 1, 8, 40) := ⟨by decide, _, rfl, ⟨rfl, (RX1, TX1, 10), rfl, by decide, xtb 224 (by decide +kernel) rfl⟩⟩
theorem lk_456 : xLq RX1 (3, 1, 1, 9, 53) := ⟨by decide, _, rfl, ⟨rfl, (RX1, TX1, 10), rfl, by decide, xtb 230 (by decide +kernel) rfl⟩⟩
theorem lk_457 : xLq RX1 (3, 25, 0, 0, 1) := ⟨by decide, _, rfl, ⟨rfl, xtb 166 (by decide +kernel) rfl⟩⟩
theorem lk_458 : xLq RX1 (3, 24, 5, 0, 7) := ⟨by decide, _, rfl, ⟨rfl, (RX5, TX5, 4), rfl, xtb 167 (by decide +kernel) rfl, xtb 168 (by decide +kernel) rfl, xtb 129 (by decide +kernel) rfl⟩⟩
theorem lk_459 : xLq RX1 (3, 13, 288, 44, 11) := ⟨by decide, _, rfl, ⟨rfl, mX5_init, rfl, xtb 169 (by decide +kernel) rfl, rfl, rfl, rfl, xtb 170 (by decide +kernel) rfl⟩⟩
theorem lk_460 : xLq RX1 (3, 61, 1, 0, 14) := ⟨by decide, _, rfl, ⟨rfl, (RX1, TX1, 10), .object "BentScreens$Rows", rfl, by decide, xtb 197 (by decide +kernel) rfl, rfl, (fun _ => rfl), by decide +kernel, Or.inl ⟨_, rfl⟩⟩⟩
theorem lk_461 : xLq RX1 (3, 61, 1, 1, 18) := ⟨by decide, _, rfl, ⟨rfl, (RX1, TX1, 10), .object "BentScreens$Rows", rfl, by decide, xtb 200 (by decide +kernel) rfl, rfl, (fun _ => rfl), by decide +kernel, Or.inl ⟨_, rfl⟩⟩⟩
theorem lk_462 : xLq RX1 (3, 61, 1, 2, 21) := ⟨by decide, _, rfl, ⟨rfl, (RX1, TX1, 10), .object "BentScreens$Rows", rfl, by decide, xtb 203 (by decide +kernel) rfl, rfl, (fun _ => rfl), by decide +kernel, Or.inl ⟨_, rfl⟩⟩⟩
theorem lk_463 : xLq RX1 (3, 61, 1, 3, 24) := ⟨by decide, _, rfl, ⟨rfl, (RX1, TX1, 10), .object "BentScreens$Rows", rfl, by decide, xtb 206 (by decide +kernel) rfl, rfl, (fun _ => rfl), by decide +kernel, Or.inl ⟨_, rfl⟩⟩⟩
theorem lk_464 : xLq RX1 (3, 61, 1, 4, 27) := ⟨by decide, _, rfl, ⟨rfl, (RX1, TX1, 10), .object "BentScreens$Rows", rfl, by decide, xtb 208 (by decide +kernel) rfl, rfl, (fun _ => rfl), by decide +kernel, Or.inl ⟨_, rfl⟩⟩⟩
theorem lk_465 : xLq RX1 (3, 1, 5, 3, 43) := ⟨by decide, _, rfl, ⟨rfl, (RX5, TX5, 4), rfl, by decide, xtb 178 (by decide +kernel) rfl⟩⟩
theorem lk_466 : xLq RX1 (3, 13, 285, 40, 46) := ⟨by decide, _, rfl, ⟨rfl, mX5_get, rfl, xtb 1493 (by decide +kernel) rfl, xtb 807 (by decide +kernel) rfl, xtb 808 (by decide +kernel) rfl, (RX5, TX5, 4), rfl, rfl⟩⟩
theorem lk_467 : xLq RX2 (3, 1, 2, 9, 57) := ⟨by decide, _, rfl, ⟨rfl, (RX2, TX2, 11), rfl, by decide, xtb 374 (by decide +kernel) rfl⟩⟩
theorem lk_468 : xLq RX2 (3, 1, 2, 2, 12) := ⟨by decide, _, rfl, ⟨rfl, (RX2, TX2, 11), rfl, by decide, xtb 367 (by decide +kernel) rfl⟩⟩
theorem lk_469 : xLq RX2 (3, 1, 1, 4, 211) := ⟨by decide, _, rfl, ⟨rfl, (RX1, TX1, 10), rfl, by decide, xtb 210 (by decide +kernel) rfl⟩⟩
theorem lk_470 : xLq RX2 (3, 1, 5, 3, 185) := ⟨by decide, _, rfl, ⟨rfl, (RX5, TX5, 4), rfl, by decide, xtb 183 (by decide +kernel) rfl⟩⟩
theorem lk_471 : xLq RX2 (3, 1, 2, 5, 25) := ⟨by decide, _, rfl, ⟨rfl, (RX2, TX2, 11), rfl, by decide, xtb 370 (by decide +kernel) rfl⟩⟩
theorem lk_472 : xLq RX2 (3, 13, 285, 40, 188) := ⟨by decide, _, rfl, ⟨rfl, mX5_get, rfl, xtb 806 (by decide +kernel) rfl, xtb 807 (by decide +kernel) rfl, xtb 808 (by decide +kernel) rfl, (RX5, TX5, 4), rfl, rfl⟩⟩
theorem lk_473 : xLq RX2 (3, 1, 1, 5, 192) := ⟨by decide, _, rfl, ⟨rfl, (RX1, TX1, 10), rfl, by decide, xtb 213 (by decide +kernel) rfl⟩⟩
theorem lk_474 : xLq RX2 (3, 1, 1, 6, 195) := ⟨by decide, _, rfl, ⟨rfl, (RX1, TX1, 10), rfl, by decide, xtb 217 (by decide +kernel) rfl⟩⟩
theorem lk_475 : xLq RX2 (3, 14, 2, 9, 57) := ⟨by decide, _, rfl, ⟨rfl, (RX2, TX2, 11), .int, rfl, by decide, xtb 374 (by decide +kernel) rfl, rfl, (fun h => by cases h), by decide +kernel, rfl⟩⟩
theorem lk_476 : xLq RX2 (3, 14, 2, 10, 88) := ⟨by decide, _, rfl, ⟨rfl, (RX2, TX2, 11), .int, rfl, by decide, xtb 375 (by decide +kernel) rfl, rfl, (fun h => by cases h), by decide +kernel, rfl⟩⟩
theorem lk_477 : xLq RX2 (3, 25, 0, 0, 3) := ⟨by decide, _, rfl, ⟨rfl, xtb 331 (by decide +kernel) rfl⟩⟩
theorem lk_478 : xLq RX2 (3, 24, 1, 0, 9) := ⟨by decide, _, rfl, ⟨rfl, (RX1, TX1, 10), rfl, xtb 332 (by decide +kernel) rfl, xtb 162 (by decide +kernel) rfl, xtb 128 (by decide +kernel) rfl⟩⟩
theorem lk_479 : xLq RX2 (3, 13, 242, 13, 11) := ⟨by decide, _, rfl, ⟨rfl, mX1_init, rfl, "BentScreens", List.mem_of_getElem? (i := 333) (by decide +kernel), rfl, rfl, rfl, xtb 164 (by decide +kernel) rfl⟩⟩
theorem lk_480 : xLq RX2 (3, 61, 2, 2, 12) := ⟨by decide, _, rfl, ⟨rfl, (RX2, TX2, 11), .object "BentScreens$Film", rfl, by decide, xtb 367 (by decide +kernel) rfl, rfl, (fun _ => rfl), by decide +kernel, Or.inl ⟨_, rfl⟩⟩⟩
theorem lk_481 : xLq RX2 (3, 61, 2, 3, 18) := ⟨by decide, _, rfl, ⟨rfl, (RX2, TX2, 11), .array .int, rfl, by decide, xtb 368 (by decide +kernel) rfl, rfl, (fun _ => rfl), by decide +kernel, Or.inr ⟨_, rfl⟩⟩⟩
theorem lk_482 : xLq RX2 (3, 61, 2, 4, 22) := ⟨by decide, _, rfl, ⟨rfl, (RX2, TX2, 11), .array .int, rfl, by decide, xtb 369 (by decide +kernel) rfl, rfl, (fun _ => rfl), by decide +kernel, Or.inr ⟨_, rfl⟩⟩⟩
theorem lk_483 : xLq RX2 (3, 61, 2, 5, 25) := ⟨by decide, _, rfl, ⟨rfl, (RX2, TX2, 11), .array .int, rfl, by decide, xtb 370 (by decide +kernel) rfl, rfl, (fun _ => rfl), by decide +kernel, Or.inr ⟨_, rfl⟩⟩⟩
theorem lk_484 : xLq RX2 (3, 61, 2, 0, 28) := ⟨by decide, _, rfl, ⟨rfl, (RX2, TX2, 11), .object "BentScreens$Told", rfl, by decide, xtb 365 (by decide +kernel) rfl, rfl, (fun _ => rfl), by decide +kernel, Or.inl ⟨_, rfl⟩⟩⟩
theorem lk_485 : xLq RX2 (3, 24, 8, 0, 32) := ⟨by decide, _, rfl, ⟨rfl, (RX8, TX8, 6), rfl, xtb 334 (by decide +kernel) rfl, xtb 335 (by decide +kernel) rfl, xtb 131 (by decide +kernel) rfl⟩⟩
theorem lk_486 : xLq RX2 (3, 1, 9, 0, 34) := ⟨by decide, _, rfl, ⟨rfl, (RX9, TX9, 14), rfl, by decide, xtb 257 (by decide +kernel) rfl⟩⟩
theorem lk_487 : xLq RX2 (3, 13, 313, 68, 40) := ⟨by decide, _, rfl, ⟨rfl, mX8_init, rfl, xtb 336 (by decide +kernel) rfl, rfl, rfl, rfl, xtb 337 (by decide +kernel) rfl⟩⟩
theorem lk_488 : xLq RX2 (3, 61, 2, 1, 43) := ⟨by decide, _, rfl, ⟨rfl, (RX2, TX2, 11), .object "BentScreens$Tokens", rfl, by decide, xtb 366 (by decide +kernel) rfl, rfl, (fun _ => rfl), by decide +kernel, Or.inl ⟨_, rfl⟩⟩⟩
theorem lk_489 : xLq RX2 (3, 13, 249, 16, 158) := ⟨by decide, _, rfl, ⟨rfl, mX2_isTooMany, rfl, xtb 790 (by decide +kernel) rfl, xtb 792 (by decide +kernel) rfl, xtb 5 (by decide +kernel) rfl, (RX2, TX2, 11), rfl, rfl⟩⟩
theorem lk_490 : xLq RX2 (3, 37, 1, 0, 115) := ⟨by decide, _, rfl, ⟨rfl, _, rfl, xtb 774 (by decide +kernel) rfl⟩⟩
theorem lk_491 : xLq RX2 (3, 1, 2, 3, 18) := ⟨by decide, _, rfl, ⟨rfl, (RX2, TX2, 11), rfl, by decide, xtb 368 (by decide +kernel) rfl⟩⟩
theorem lk_492 : xLq RX2 (3, 37, 2, 0, 162) := ⟨by decide, _, rfl, ⟨rfl, _, rfl, xtb 810 (by decide +kernel) rfl⟩⟩
theorem lk_493 : xLq RX2 (3, 37, 3, 0, 165) := ⟨by decide, _, rfl, ⟨rfl, _, rfl, xtb 812 (by decide +kernel) rfl⟩⟩
theorem lk_494 : xLq RX2 (3, 13, 70, 91, 168) := ⟨by decide, _, rfl, ⟨rfl, mX11_isIn, rfl, "BentScreens", List.mem_of_getElem? (i := 814) (by decide +kernel), xtb 815 (by decide +kernel) rfl⟩⟩
theorem lk_495 : xLq RX2 (3, 1, 2, 4, 22) := ⟨by decide, _, rfl, ⟨rfl, (RX2, TX2, 11), rfl, by decide, xtb 369 (by decide +kernel) rfl⟩⟩
theorem lk_496 : xLq RX2 (3, 1, 1, 1, 182) := ⟨by decide, _, rfl, ⟨rfl, (RX1, TX1, 10), rfl, by decide, xtb 201 (by decide +kernel) rfl⟩⟩
theorem lk_497 : xLq RX2 (3, 1, 2, 7, 50) := ⟨by decide, _, rfl, ⟨rfl, (RX2, TX2, 11), rfl, by decide, xtb 372 (by decide +kernel) rfl⟩⟩
theorem lk_498 : xLq RX2 (3, 1, 2, 8, 54) := ⟨by decide, _, rfl, ⟨rfl, (RX2, TX2, 11), rfl, by decide, xtb 373 (by decide +kernel) rfl⟩⟩
theorem lk_499 : xLq RX2 (3, 13, 243, 8, 172) := ⟨by decide, _, rfl, ⟨rfl, mX1_rowsOf, rfl, xtb 794 (by decide +kernel) rfl, xtb 795 (by decide +kernel) rfl, xtb 796 (by decide +kernel) rfl, (RX1, TX1, 10), rfl, rfl⟩⟩
theorem lk_500 : xLq RX2 (3, 13, 289, 40, 176) := ⟨by decide, _, rfl, ⟨rfl, mX5_isFull, rfl, xtb 798 (by decide +kernel) rfl, xtb 799 (by decide +kernel) rfl, xtb 800 (by decide +kernel) rfl, (RX5, TX5, 4), rfl, rfl⟩⟩
theorem lk_501 : xLq RX2 (3, 13, 248, 16, 179) := ⟨by decide, _, rfl, ⟨rfl, mX2_isLifeTold, rfl, xtb 802 (by decide +kernel) rfl, xtb 804 (by decide +kernel) rfl, xtb 6 (by decide +kernel) rfl, (RX2, TX2, 11), rfl, rfl⟩⟩
theorem lk_502 : xLq RX2 (3, 13, 240, 8, 47) := ⟨by decide, _, rfl, ⟨rfl, mX1_clear, rfl, xtb 674 (by decide +kernel) rfl, xtb 675 (by decide +kernel) rfl, xtb 676 (by decide +kernel) rfl, (RX1, TX1, 10), rfl, rfl⟩⟩
theorem lk_503 : xLq RX2 (3, 59, 2, 7, 50) := ⟨by decide, _, rfl, ⟨rfl, (RX2, TX2, 11), .boolean, rfl, by decide, xtb 372 (by decide +kernel) rfl, rfl, (fun h => by cases h), by decide +kernel, rfl⟩⟩
theorem lk_504 : xLq RX2 (3, 59, 2, 8, 54) := ⟨by decide, _, rfl, ⟨rfl, (RX2, TX2, 11), .boolean, rfl, by decide, xtb 373 (by decide +kernel) rfl, rfl, (fun h => by cases h), by decide +kernel, rfl⟩⟩
theorem lk_505 : xLq RX2 (3, 1, 2, 1, 43) := ⟨by decide, _, rfl, ⟨rfl, (RX2, TX2, 11), rfl, by decide, xtb 366 (by decide +kernel) rfl⟩⟩
theorem lk_506 : xLq RX2 (3, 1, 2, 0, 28) := ⟨by decide, _, rfl, ⟨rfl, (RX2, TX2, 11), rfl, by decide, xtb 365 (by decide +kernel) rfl⟩⟩
theorem lk_507 : xLq RX2 (3, 1, 9, 1, 61) := ⟨by decide, _, rfl, ⟨rfl, (RX9, TX9, 14), rfl, by decide, xtb 261 (by decide +kernel) rfl⟩⟩
theorem lk_508 : xLq RX2 (3, 13, 319, 64, 64) := ⟨by decide, _, rfl, ⟨rfl, mX8_start, rfl, xtb 682 (by decide +kernel) rfl, xtb 683 (by decide +kernel) rfl, xtb 684 (by decide +kernel) rfl, (RX8, TX8, 6), rfl, rfl⟩⟩
theorem lk_509 : xLq RX2 (3, 1, 1, 9, 68) := ⟨by decide, _, rfl, ⟨rfl, (RX1, TX1, 10), rfl, by decide, xtb 229 (by decide +kernel) rfl⟩⟩
theorem lk_510 : xLq RX2 (3, 1, 8, 2, 71) := ⟨by decide, _, rfl, ⟨rfl, (RX8, TX8, 6), rfl, by decide, xtb 343 (by decide +kernel) rfl⟩⟩
theorem lk_511 : xLq RX2 (3, 13, 252, 16, 74) := ⟨by decide, _, rfl, ⟨rfl, mX2_readLine, rfl, xtb 706 (by decide +kernel) rfl, xtb 708 (by decide +kernel) rfl, xtb 1 (by decide +kernel) rfl, (RX2, TX2, 11), rfl, rfl⟩⟩
theorem lk_512 : xLq RX2 (3, 1, 8, 3, 78) := ⟨by decide, _, rfl, ⟨rfl, (RX8, TX8, 6), rfl, by decide, xtb 346 (by decide +kernel) rfl⟩⟩
theorem lk_513 : xLq RX2 (3, 13, 326, 72, 81) := ⟨by decide, _, rfl, ⟨rfl, mX9_take, rfl, xtb 834 (by decide +kernel) rfl, xtb 835 (by decide +kernel) rfl, xtb 836 (by decide +kernel) rfl, (RX9, TX9, 14), rfl, rfl⟩⟩
theorem lk_514 : xLq RX2 (3, 14, 1, 9, 68) := ⟨by decide, _, rfl, ⟨rfl, (RX1, TX1, 10), .int, rfl, by decide, xtb 229 (by decide +kernel) rfl, rfl, (fun h => by cases h), by decide +kernel, rfl⟩⟩
theorem lk_515 : xLq RX2 (3, 13, 245, 16, 85) := ⟨by decide, _, rfl, ⟨rfl, mX2_findFlawBeside, rfl, xtb 838 (by decide +kernel) rfl, xtb 840 (by decide +kernel) rfl, xtb 8 (by decide +kernel) rfl, (RX2, TX2, 11), rfl, rfl⟩⟩
theorem lk_516 : xLq RX2 (3, 1, 2, 10, 88) := ⟨by decide, _, rfl, ⟨rfl, (RX2, TX2, 11), rfl, by decide, xtb 375 (by decide +kernel) rfl⟩⟩
theorem lk_517 : xLq RX2 (3, 1, 9, 4, 91) := ⟨by decide, _, rfl, ⟨rfl, (RX9, TX9, 14), rfl, by decide, xtb 268 (by decide +kernel) rfl⟩⟩
theorem lk_518 : xLq RX2 (3, 13, 241, 8, 94) := ⟨by decide, _, rfl, ⟨rfl, mX1_copy, rfl, xtb 842 (by decide +kernel) rfl, xtb 843 (by decide +kernel) rfl, xtb 844 (by decide +kernel) rfl, (RX1, TX1, 10), rfl, rfl⟩⟩
theorem lk_519 : xLq RX2 (3, 1, 9, 5, 98) := ⟨by decide, _, rfl, ⟨rfl, (RX9, TX9, 14), rfl, by decide, xtb 272 (by decide +kernel) rfl⟩⟩
theorem lk_520 : xLq RX2 (3, 13, 283, 40, 102) := ⟨by decide, _, rfl, ⟨rfl, mX5_clear, rfl, xtb 853 (by decide +kernel) rfl, xtb 679 (by decide +kernel) rfl, xtb 680 (by decide +kernel) rfl, (RX5, TX5, 4), rfl, rfl⟩⟩
theorem lk_521 : xLq RX2 (3, 1, 9, 8, 105) := ⟨by decide, _, rfl, ⟨rfl, (RX9, TX9, 14), rfl, by decide, xtb 280 (by decide +kernel) rfl⟩⟩
theorem lk_522 : xLq RX2 (2, 72, 0, 0, 151) := ⟨by decide, _, rfl, ⟨rfl, "slide", rfl, List.mem_of_getElem? (i := 780) (by decide +kernel)⟩⟩
theorem lk_523 : xLq RX2 (3, 13, 318, 64, 135) := ⟨by decide, _, rfl, ⟨rfl, mX8_isWord, rfl, xtb 715 (by decide +kernel) rfl, xtb 716 (by decide +kernel) rfl, xtb 717 (by decide +kernel) rfl, (RX8, TX8, 6), rfl, rfl⟩⟩
theorem lk_524 : xLq RX2 (3, 59, 2, 6, 153) := ⟨by decide, _, rfl, ⟨rfl, (RX2, TX2, 11), .boolean, rfl, by decide, xtb 371 (by decide +kernel) rfl, rfl, (fun h => by cases h), by decide +kernel, rfl⟩⟩
theorem lk_525 : xLq RX2 (3, 1, 2, 6, 153) := ⟨by decide, _, rfl, ⟨rfl, (RX2, TX2, 11), rfl, by decide, xtb 371 (by decide +kernel) rfl⟩⟩
theorem lk_526 : xLq RX2 (2, 72, 1, 0, 156) := ⟨by decide, _, rfl, ⟨rfl, "hold", rfl, List.mem_of_getElem? (i := 781) (by decide +kernel)⟩⟩
theorem lk_527 : xLq RX2 (3, 13, 312, 64, 112) := ⟨by decide, _, rfl, ⟨rfl, mX8_advance, rfl, xtb 773 (by decide +kernel) rfl, xtb 690 (by decide +kernel) rfl, xtb 691 (by decide +kernel) rfl, (RX8, TX8, 6), rfl, rfl⟩⟩
theorem lk_528 : xLq RX2 (3, 13, 253, 16, 108) := ⟨by decide, _, rfl, ⟨rfl, mX2_sortOfWord, rfl, xtb 710 (by decide +kernel) rfl, xtb 712 (by decide +kernel) rfl, xtb 2 (by decide +kernel) rfl, (RX2, TX2, 11), rfl, rfl⟩⟩
theorem lk_529 : xLq RX2 (3, 1, 8, 5, 118) := ⟨by decide, _, rfl, ⟨rfl, (RX8, TX8, 6), rfl, by decide, xtb 349 (by decide +kernel) rfl⟩⟩
theorem lk_530 : xLq RX2 (3, 13, 251, 16, 121) := ⟨by decide, _, rfl, ⟨rfl, mX2_readGlue, rfl, xtb 776 (by decide +kernel) rfl, xtb 778 (by decide +kernel) rfl, xtb 3 (by decide +kernel) rfl, (RX2, TX2, 11), rfl, rfl⟩⟩
theorem lk_531 : xLq RX2 (3, 13, 316, 64, 124) := ⟨by decide, _, rfl, ⟨rfl, mX8_isSign, rfl, xtb 782 (by decide +kernel) rfl, xtb 783 (by decide +kernel) rfl, xtb 784 (by decide +kernel) rfl, (RX8, TX8, 6), rfl, rfl⟩⟩
theorem lk_532 : xLq RX2 (3, 13, 247, 16, 128) := ⟨by decide, _, rfl, ⟨rfl, mX2_isFine, rfl, xtb 786 (by decide +kernel) rfl, xtb 788 (by decide +kernel) rfl, xtb 4 (by decide +kernel) rfl, (RX2, TX2, 11), rfl, rfl⟩⟩
theorem lk_533 : xLq RX2 (3, 13, 254, 16, 132) := ⟨by decide, _, rfl, ⟨rfl, mX2_take, rfl, xtb 817 (by decide +kernel) rfl, xtb 819 (by decide +kernel) rfl, xtb 7 (by decide +kernel) rfl, (RX2, TX2, 11), rfl, rfl⟩⟩
theorem lk_534 : xLq RX2 (2, 72, 2, 0, 133) := ⟨by decide, _, rfl, ⟨rfl, "layer", rfl, List.mem_of_getElem? (i := 714) (by decide +kernel)⟩⟩
theorem lk_535 : xLq RX2 (2, 72, 3, 0, 139) := ⟨by decide, _, rfl, ⟨rfl, "life", rfl, List.mem_of_getElem? (i := 767) (by decide +kernel)⟩⟩
theorem lk_536 : xLq RX2 (2, 72, 4, 0, 141) := ⟨by decide, _, rfl, ⟨rfl, "folds", rfl, List.mem_of_getElem? (i := 768) (by decide +kernel)⟩⟩
theorem lk_537 : xLq RX2 (2, 72, 5, 0, 143) := ⟨by decide, _, rfl, ⟨rfl, "panel", rfl, List.mem_of_getElem? (i := 769) (by decide +kernel)⟩⟩
theorem lk_538 : xLq RX2 (2, 72, 6, 0, 145) := ⟨by decide, _, rfl, ⟨rfl, "flaw", rfl, List.mem_of_getElem? (i := 770) (by decide +kernel)⟩⟩
theorem lk_539 : xLq RX2 (2, 72, 7, 0, 147) := ⟨by decide, _, rfl, ⟨rfl, "sheet", rfl, List.mem_of_getElem? (i := 771) (by decide +kernel)⟩⟩
theorem lk_540 : xLq RX2 (2, 72, 8, 0, 149) := ⟨by decide, _, rfl, ⟨rfl, "net", rfl, List.mem_of_getElem? (i := 772) (by decide +kernel)⟩⟩
theorem lk_541 : xLq RX2 (3, 14, 1, 5, 192) := ⟨by decide, _, rfl, ⟨rfl, (RX1, TX1, 10), .int, rfl, by decide, xtb 213 (by decide +kernel) rfl, rfl, (fun h => by cases h), by decide +kernel, rfl⟩⟩
theorem lk_542 : xLq RX2 (3, 14, 1, 6, 195) := ⟨by decide, _, rfl, ⟨rfl, (RX1, TX1, 10), .int, rfl, by decide, xtb 217 (by decide +kernel) rfl, rfl, (fun h => by cases h), by decide +kernel, rfl⟩⟩
theorem lk_543 : xLq RX2 (3, 14, 1, 7, 198) := ⟨by decide, _, rfl, ⟨rfl, (RX1, TX1, 10), .int, rfl, by decide, xtb 222 (by decide +kernel) rfl, rfl, (fun h => by cases h), by decide +kernel, rfl⟩⟩
theorem lk_544 : xLq RX2 (3, 14, 1, 8, 201) := ⟨by decide, _, rfl, ⟨rfl, (RX1, TX1, 10), .int, rfl, by decide, xtb 227 (by decide +kernel) rfl, rfl, (fun h => by cases h), by decide +kernel, rfl⟩⟩
theorem lk_545 : xLq RX2 (3, 13, 286, 40, 204) := ⟨by decide, _, rfl, ⟨rfl, mX5_grow, rfl, xtb 821 (by decide +kernel) rfl, xtb 822 (by decide +kernel) rfl, xtb 823 (by decide +kernel) rfl, (RX5, TX5, 4), rfl, rfl⟩⟩
theorem lk_546 : xLq RX2 (3, 13, 290, 40, 207) := ⟨by decide, _, rfl, ⟨rfl, mX5_put, rfl, xtb 826 (by decide +kernel) rfl, xtb 827 (by decide +kernel) rfl, xtb 828 (by decide +kernel) rfl, (RX5, TX5, 4), rfl, rfl⟩⟩
theorem lk_547 : xLq RX3 (3, 1, 3, 0, 21) := ⟨by decide, _, rfl, ⟨rfl, (RX3, TX3, 6), rfl, by decide, xtb 528 (by decide +kernel) rfl⟩⟩
theorem lk_548 : xLq RX3 (3, 1, 9, 8, 38) := ⟨by decide, _, rfl, ⟨rfl, (RX9, TX9, 14), rfl, by decide, xtb 281 (by decide +kernel) rfl⟩⟩
theorem lk_549 : xLq RX3 (3, 13, 285, 40, 54) := ⟨by decide, _, rfl, ⟨rfl, mX5_get, rfl, xtb 1161 (by decide +kernel) rfl, xtb 807 (by decide +kernel) rfl, xtb 808 (by decide +kernel) rfl, (RX5, TX5, 4), rfl, rfl⟩⟩
theorem lk_550 : xLq RX3 (3, 63, 0, 0, 58) := ⟨by decide, _, rfl, ⟨rfl, xtb 1162 (by decide +kernel) rfl⟩⟩
theorem lk_551 : xLq RX3 (3, 62, 0, 0, 63) := ⟨by decide, _, rfl, ⟨rfl, xtb 1163 (by decide +kernel) rfl⟩⟩
theorem lk_552 : xLq RX3 (3, 1, 3, 1, 9) := ⟨by decide, _, rfl, ⟨rfl, (RX3, TX3, 6), rfl, by decide, xtb 529 (by decide +kernel) rfl⟩⟩
theorem lk_553 : xLq RX3 (3, 1, 9, 4, 66) := ⟨by decide, _, rfl, ⟨rfl, (RX9, TX9, 14), rfl, by decide, xtb 270 (by decide +kernel) rfl⟩⟩
theorem lk_554 : xLq RX3 (3, 1, 1, 8, 73) := ⟨by decide, _, rfl, ⟨rfl, (RX1, TX1, 10), rfl, by decide, xtb 226 (by decide +kernel) rfl⟩⟩
theorem lk_555 : xLq RX3 (3, 1, 1, 7, 70) := ⟨by decide, _, rfl, ⟨rfl, (RX1, TX1, 10), rfl, by decide, xtb 221 (by decide +kernel) rfl⟩⟩
theorem lk_556 : xLq RX3 (3, 13, 258, 24, 87) := ⟨by decide, _, rfl, ⟨rfl, mX3_dampAt, rfl, xtb 1195 (by decide +kernel) rfl, xtb 1197 (by decide +kernel) rfl, xtb 30 (by decide +kernel) rfl, (RX3, TX3, 6), rfl, rfl⟩⟩
theorem lk_557 : xLq RX3 (3, 1, 3, 3, 18) := ⟨by decide, _, rfl, ⟨rfl, (RX3, TX3, 6), rfl, by decide, xtb 532 (by decide +kernel) rfl⟩⟩
theorem lk_558 : xLq RX3 (3, 1, 3, 2, 15) := ⟨by decide, _, rfl, ⟨rfl, (RX3, TX3, 6), rfl, by decide, xtb 530 (by decide +kernel) rfl⟩⟩
theorem lk_559 : xLq RX3 (3, 58, 0, 0, 90) := ⟨by decide, _, rfl, ⟨rfl, xtb 1199 (by decide +kernel) rfl⟩⟩
theorem lk_560 : xLq RX3 (3, 59, 3, 4, 25) := ⟨by decide, _, rfl, ⟨rfl, (RX3, TX3, 6), .boolean, rfl, by decide, xtb 533 (by decide +kernel) rfl, rfl, (fun h => by cases h), by decide +kernel, rfl⟩⟩
theorem lk_561 : xLq RX3 (3, 59, 3, 5, 29) := ⟨by decide, _, rfl, ⟨rfl, (RX3, TX3, 6), .boolean, rfl, by decide, xtb 534 (by decide +kernel) rfl, rfl, (fun h => by cases h), by decide +kernel, rfl⟩⟩
theorem lk_562 : xLq RX3 (3, 25, 0, 0, 1) := ⟨by decide, _, rfl, ⟨rfl, xtb 527 (by decide +kernel) rfl⟩⟩
theorem lk_563 : xLq RX3 (3, 61, 3, 1, 9) := ⟨by decide, _, rfl, ⟨rfl, (RX3, TX3, 6), .array .int, rfl, by decide, xtb 529 (by decide +kernel) rfl, rfl, (fun _ => rfl), by decide +kernel, Or.inr ⟨_, rfl⟩⟩⟩
theorem lk_564 : xLq RX3 (3, 61, 3, 2, 15) := ⟨by decide, _, rfl, ⟨rfl, (RX3, TX3, 6), .array .int, rfl, by decide, xtb 530 (by decide +kernel) rfl, rfl, (fun _ => rfl), by decide +kernel, Or.inr ⟨_, rfl⟩⟩⟩
theorem lk_565 : xLq RX3 (3, 61, 3, 3, 18) := ⟨by decide, _, rfl, ⟨rfl, (RX3, TX3, 6), .array .int, rfl, by decide, xtb 532 (by decide +kernel) rfl, rfl, (fun _ => rfl), by decide +kernel, Or.inr ⟨_, rfl⟩⟩⟩
theorem lk_566 : xLq RX3 (3, 61, 3, 0, 21) := ⟨by decide, _, rfl, ⟨rfl, (RX3, TX3, 6), .object "BentScreens$Told", rfl, by decide, xtb 528 (by decide +kernel) rfl, rfl, (fun _ => rfl), by decide +kernel, Or.inl ⟨_, rfl⟩⟩⟩
theorem lk_567 : xLq RX3 (3, 13, 263, 24, 76) := ⟨by decide, _, rfl, ⟨rfl, mX3_leftOf, rfl, xtb 1178 (by decide +kernel) rfl, xtb 1167 (by decide +kernel) rfl, xtb 1168 (by decide +kernel) rfl, (RX3, TX3, 6), rfl, rfl⟩⟩
theorem lk_568 : xLq RX3 (3, 1, 3, 4, 25) := ⟨by decide, _, rfl, ⟨rfl, (RX3, TX3, 6), rfl, by decide, xtb 533 (by decide +kernel) rfl⟩⟩
theorem lk_569 : xLq RX3 (3, 13, 1, 2, 32) := ⟨by decide, _, rfl, ⟨rfl, mJ7_fill_53178, rfl, xtb 1156 (by decide +kernel) rfl, xtb 1080 (by decide +kernel) rfl⟩⟩
theorem lk_570 : xLq RX3 (3, 1, 5, 3, 44) := ⟨by decide, _, rfl, ⟨rfl, (RX5, TX5, 4), rfl, by decide, xtb 182 (by decide +kernel) rfl⟩⟩
theorem lk_571 : xLq RX3 (3, 13, 255, 24, 50) := ⟨by decide, _, rfl, ⟨rfl, mX3_addPicture, rfl, xtb 1157 (by decide +kernel) rfl, xtb 1159 (by decide +kernel) rfl, xtb 28 (by decide +kernel) rfl, (RX3, TX3, 6), rfl, rfl⟩⟩
theorem lk_572 : xLq RX3 (3, 1, 3, 5, 29) := ⟨by decide, _, rfl, ⟨rfl, (RX3, TX3, 6), rfl, by decide, xtb 534 (by decide +kernel) rfl⟩⟩
theorem lk_573 : xLq RX3 (3, 1, 9, 9, 80) := ⟨by decide, _, rfl, ⟨rfl, (RX9, TX9, 14), rfl, by decide, xtb 284 (by decide +kernel) rfl⟩⟩
theorem lk_574 : xLq RX3 (3, 13, 257, 24, 83) := ⟨by decide, _, rfl, ⟨rfl, mX3_creepOn, rfl, xtb 1191 (by decide +kernel) rfl, xtb 1193 (by decide +kernel) rfl, xtb 29 (by decide +kernel) rfl, (RX3, TX3, 6), rfl, rfl⟩⟩
theorem lk_575 : xLq RX3 (3, 13, 256, 24, 100) := ⟨by decide, _, rfl, ⟨rfl, mX3_agingIn, rfl, xtb 1236 (by decide +kernel) rfl, xtb 1238 (by decide +kernel) rfl, xtb 35 (by decide +kernel) rfl, (RX3, TX3, 6), rfl, rfl⟩⟩
theorem lk_576 : xLq RX3 (3, 13, 267, 24, 96) := ⟨by decide, _, rfl, ⟨rfl, mX3_roundsOfLamp, rfl, xtb 1232 (by decide +kernel) rfl, xtb 1234 (by decide +kernel) rfl, xtb 34 (by decide +kernel) rfl, (RX3, TX3, 6), rfl, rfl⟩⟩
theorem lk_577 : xLq RX4 (3, 1, 4, 1, 11) := ⟨by decide, _, rfl, ⟨rfl, (RX4, TX4, 12), rfl, by decide, xtb 580 (by decide +kernel) rfl⟩⟩
theorem lk_578 : xLq RX4 (3, 1, 4, 2, 15) := ⟨by decide, _, rfl, ⟨rfl, (RX4, TX4, 12), rfl, by decide, xtb 581 (by decide +kernel) rfl⟩⟩
theorem lk_579 : xLq RX4 (3, 13, 1, 2, 94) := ⟨by decide, _, rfl, ⟨rfl, mJ7_fill_53178, rfl, xtb 1421 (by decide +kernel) rfl, xtb 1080 (by decide +kernel) rfl⟩⟩
theorem lk_580 : xLq RX4 (3, 1, 4, 3, 18) := ⟨by decide, _, rfl, ⟨rfl, (RX4, TX4, 12), rfl, by decide, xtb 582 (by decide +kernel) rfl⟩⟩
theorem lk_581 : xLq RX4 (3, 13, 282, 34, 54) := ⟨by decide, _, rfl, ⟨rfl, mX4_unitAt, rfl, xtb 1363 (by decide +kernel) rfl, xtb 1364 (by decide +kernel) rfl⟩⟩
theorem lk_582 : xLq RX4 (3, 59, 4, 9, 25) := ⟨by decide, _, rfl, ⟨rfl, (RX4, TX4, 12), .boolean, rfl, by decide, xtb 592 (by decide +kernel) rfl, rfl, (fun h => by cases h), by decide +kernel, rfl⟩⟩
theorem lk_583 : xLq RX4 (3, 59, 4, 10, 29) := ⟨by decide, _, rfl, ⟨rfl, (RX4, TX4, 12), .boolean, rfl, by decide, xtb 593 (by decide +kernel) rfl, rfl, (fun h => by cases h), by decide +kernel, rfl⟩⟩
theorem lk_584 : xLq RX4 (3, 59, 4, 11, 32) := ⟨by decide, _, rfl, ⟨rfl, (RX4, TX4, 12), .boolean, rfl, by decide, xtb 594 (by decide +kernel) rfl, rfl, (fun h => by cases h), by decide +kernel, rfl⟩⟩
theorem lk_585 : xLq RX4 (3, 25, 0, 0, 3) := ⟨by decide, _, rfl, ⟨rfl, xtb 578 (by decide +kernel) rfl⟩⟩
theorem lk_586 : xLq RX4 (3, 61, 4, 1, 11) := ⟨by decide, _, rfl, ⟨rfl, (RX4, TX4, 12), .array .int, rfl, by decide, xtb 580 (by decide +kernel) rfl, rfl, (fun _ => rfl), by decide +kernel, Or.inr ⟨_, rfl⟩⟩⟩
theorem lk_587 : xLq RX4 (3, 61, 4, 2, 15) := ⟨by decide, _, rfl, ⟨rfl, (RX4, TX4, 12), .array .int, rfl, by decide, xtb 581 (by decide +kernel) rfl, rfl, (fun _ => rfl), by decide +kernel, Or.inr ⟨_, rfl⟩⟩⟩
theorem lk_588 : xLq RX4 (3, 61, 4, 3, 18) := ⟨by decide, _, rfl, ⟨rfl, (RX4, TX4, 12), .array .int, rfl, by decide, xtb 582 (by decide +kernel) rfl, rfl, (fun _ => rfl), by decide +kernel, Or.inr ⟨_, rfl⟩⟩⟩
theorem lk_589 : xLq RX4 (3, 61, 4, 0, 21) := ⟨by decide, _, rfl, ⟨rfl, (RX4, TX4, 12), .object "BentScreens$Rows", rfl, by decide, xtb 579 (by decide +kernel) rfl, rfl, (fun _ => rfl), by decide +kernel, Or.inl ⟨_, rfl⟩⟩⟩
theorem lk_590 : xLq RX4 (3, 1, 4, 0, 21) := ⟨by decide, _, rfl, ⟨rfl, (RX4, TX4, 12), rfl, by decide, xtb 579 (by decide +kernel) rfl⟩⟩
theorem lk_591 : xLq RX4 (3, 1, 5, 3, 43) := ⟨by decide, _, rfl, ⟨rfl, (RX5, TX5, 4), rfl, by decide, xtb 180 (by decide +kernel) rfl⟩⟩
theorem lk_592 : xLq RX4 (3, 1, 4, 5, 71) := ⟨by decide, _, rfl, ⟨rfl, (RX4, TX4, 12), rfl, by decide, xtb 585 (by decide +kernel) rfl⟩⟩
theorem lk_593 : xLq RX4 (3, 13, 270, 34, 57) := ⟨by decide, _, rfl, ⟨rfl, mX4_bitOf, rfl, xtb 1366 (by decide +kernel) rfl, xtb 1367 (by decide +kernel) rfl⟩⟩
theorem lk_594 : xLq RX4 (3, 1, 4, 9, 25) := ⟨by decide, _, rfl, ⟨rfl, (RX4, TX4, 12), rfl, by decide, xtb 592 (by decide +kernel) rfl⟩⟩
theorem lk_595 : xLq RX4 (3, 14, 4, 4, 35) := ⟨by decide, _, rfl, ⟨rfl, (RX4, TX4, 12), .int, rfl, by decide, xtb 583 (by decide +kernel) rfl, rfl, (fun h => by cases h), by decide +kernel, rfl⟩⟩
theorem lk_596 : xLq RX4 (3, 13, 281, 32, 39) := ⟨by decide, _, rfl, ⟨rfl, mX4_testsAgainst, rfl, xtb 1358 (by decide +kernel) rfl, xtb 1360 (by decide +kernel) rfl, xtb 44 (by decide +kernel) rfl, (RX4, TX4, 12), rfl, rfl⟩⟩
theorem lk_597 : xLq RX4 (3, 1, 4, 4, 35) := ⟨by decide, _, rfl, ⟨rfl, (RX4, TX4, 12), rfl, by decide, xtb 583 (by decide +kernel) rfl⟩⟩
theorem lk_598 : xLq RX4 (3, 1, 4, 11, 32) := ⟨by decide, _, rfl, ⟨rfl, (RX4, TX4, 12), rfl, by decide, xtb 594 (by decide +kernel) rfl⟩⟩
theorem lk_599 : xLq RX4 (3, 14, 4, 8, 81) := ⟨by decide, _, rfl, ⟨rfl, (RX4, TX4, 12), .int, rfl, by decide, xtb 590 (by decide +kernel) rfl, rfl, (fun h => by cases h), by decide +kernel, rfl⟩⟩
theorem lk_600 : xLq RX4 (3, 13, 271, 32, 84) := ⟨by decide, _, rfl, ⟨rfl, mX4_countTries, rfl, xtb 1417 (by decide +kernel) rfl, xtb 1419 (by decide +kernel) rfl, xtb 46 (by decide +kernel) rfl, (RX4, TX4, 12), rfl, rfl⟩⟩
theorem lk_601 : xLq RX4 (3, 62, 0, 0, 68) := ⟨by decide, _, rfl, ⟨rfl, xtb 1385 (by decide +kernel) rfl⟩⟩
theorem lk_602 : xLq RX4 (3, 1, 4, 8, 81) := ⟨by decide, _, rfl, ⟨rfl, (RX4, TX4, 12), rfl, by decide, xtb 590 (by decide +kernel) rfl⟩⟩
theorem lk_603 : xLq RX4 (3, 14, 4, 6, 88) := ⟨by decide, _, rfl, ⟨rfl, (RX4, TX4, 12), .int, rfl, by decide, xtb 586 (by decide +kernel) rfl, rfl, (fun h => by cases h), by decide +kernel, rfl⟩⟩
theorem lk_604 : xLq RX4 (3, 14, 4, 7, 91) := ⟨by decide, _, rfl, ⟨rfl, (RX4, TX4, 12), .int, rfl, by decide, xtb 588 (by decide +kernel) rfl, rfl, (fun h => by cases h), by decide +kernel, rfl⟩⟩
theorem lk_605 : xLq RX4 (3, 1, 4, 10, 29) := ⟨by decide, _, rfl, ⟨rfl, (RX4, TX4, 12), rfl, by decide, xtb 593 (by decide +kernel) rfl⟩⟩
theorem lk_606 : xLq RX4 (3, 14, 4, 5, 71) := ⟨by decide, _, rfl, ⟨rfl, (RX4, TX4, 12), .int, rfl, by decide, xtb 585 (by decide +kernel) rfl, rfl, (fun h => by cases h), by decide +kernel, rfl⟩⟩
theorem lk_607 : xLq RX4 (3, 13, 0, 2, 74) := ⟨by decide, _, rfl, ⟨rfl, mJ6_bitCount_0f7a4, rfl, xtb 1400 (by decide +kernel) rfl, xtb 1139 (by decide +kernel) rfl⟩⟩
theorem lk_608 : xLq RX4 (3, 13, 269, 32, 77) := ⟨by decide, _, rfl, ⟨rfl, mX4_barsAll, rfl, xtb 1401 (by decide +kernel) rfl, xtb 1403 (by decide +kernel) rfl, xtb 45 (by decide +kernel) rfl, (RX4, TX4, 12), rfl, rfl⟩⟩
theorem lk_609 : xLq RX4 (2, 35, 2147483647, 0, 62) := ⟨by decide, _, rfl, ⟨rfl, by decide, xtb 1390 (by decide +kernel) rfl⟩⟩
theorem lk_610 : xLq RX4 (3, 63, 0, 0, 63) := ⟨by decide, _, rfl, ⟨rfl, xtb 1391 (by decide +kernel) rfl⟩⟩
theorem lk_611 : xLq RX4 (3, 13, 285, 40, 50) := ⟨by decide, _, rfl, ⟨rfl, mX5_get, rfl, xtb 1362 (by decide +kernel) rfl, xtb 807 (by decide +kernel) rfl, xtb 808 (by decide +kernel) rfl, (RX5, TX5, 4), rfl, rfl⟩⟩
theorem lk_612 : xLq RX5 (3, 14, 5, 3, 22) := ⟨by decide, _, rfl, ⟨rfl, (RX5, TX5, 4), .int, rfl, by decide, xtb 176 (by decide +kernel) rfl, rfl, (fun h => by cases h), by decide +kernel, rfl⟩⟩
theorem lk_613 : xLq RX5 (3, 1, 5, 0, 9) := ⟨by decide, _, rfl, ⟨rfl, (RX5, TX5, 4), rfl, by decide, xtb 173 (by decide +kernel) rfl⟩⟩
theorem lk_614 : xLq RX5 (3, 1, 5, 1, 15) := ⟨by decide, _, rfl, ⟨rfl, (RX5, TX5, 4), rfl, by decide, xtb 174 (by decide +kernel) rfl⟩⟩
theorem lk_615 : xLq RX5 (3, 1, 5, 3, 22) := ⟨by decide, _, rfl, ⟨rfl, (RX5, TX5, 4), rfl, by decide, xtb 176 (by decide +kernel) rfl⟩⟩
theorem lk_616 : xLq RX5 (3, 1, 5, 2, 18) := ⟨by decide, _, rfl, ⟨rfl, (RX5, TX5, 4), rfl, by decide, xtb 175 (by decide +kernel) rfl⟩⟩
theorem lk_617 : xLq RX5 (3, 58, 0, 0, 33) := ⟨by decide, _, rfl, ⟨rfl, xtb 850 (by decide +kernel) rfl⟩⟩
theorem lk_618 : xLq RX5 (3, 13, 289, 40, 29) := ⟨by decide, _, rfl, ⟨rfl, mX5_isFull, rfl, xtb 825 (by decide +kernel) rfl, xtb 799 (by decide +kernel) rfl, xtb 800 (by decide +kernel) rfl, (RX5, TX5, 4), rfl, rfl⟩⟩
theorem lk_619 : xLq RX5 (3, 25, 0, 0, 3) := ⟨by decide, _, rfl, ⟨rfl, xtb 172 (by decide +kernel) rfl⟩⟩
theorem lk_620 : xLq RX5 (3, 22, 5, 0, 9) := ⟨by decide, _, rfl, ⟨rfl, (RX5, TX5, 4), .int, rfl, by decide, xtb 173 (by decide +kernel) rfl, rfl, (fun _ => rfl), by decide +kernel, rfl⟩⟩
theorem lk_621 : xLq RX5 (3, 22, 5, 1, 15) := ⟨by decide, _, rfl, ⟨rfl, (RX5, TX5, 4), .int, rfl, by decide, xtb 174 (by decide +kernel) rfl, rfl, (fun _ => rfl), by decide +kernel, rfl⟩⟩
theorem lk_622 : xLq RX5 (3, 61, 5, 2, 18) := ⟨by decide, _, rfl, ⟨rfl, (RX5, TX5, 4), .array .int, rfl, by decide, xtb 175 (by decide +kernel) rfl, rfl, (fun _ => rfl), by decide +kernel, Or.inr ⟨_, rfl⟩⟩⟩
theorem lk_623 : xLq RX5 (3, 13, 287, 40, 25) := ⟨by decide, _, rfl, ⟨rfl, mX5_has, rfl, xtb 830 (by decide +kernel) rfl, xtb 831 (by decide +kernel) rfl, xtb 832 (by decide +kernel) rfl, (RX5, TX5, 4), rfl, rfl⟩⟩
theorem lk_624 : xLq RX6 (3, 25, 0, 0, 3) := ⟨by decide, _, rfl, ⟨rfl, xtb 404 (by decide +kernel) rfl⟩⟩
theorem lk_625 : xLq RX6 (3, 24, 5, 0, 9) := ⟨by decide, _, rfl, ⟨rfl, (RX5, TX5, 4), rfl, xtb 405 (by decide +kernel) rfl, xtb 168 (by decide +kernel) rfl, xtb 129 (by decide +kernel) rfl⟩⟩
theorem lk_626 : xLq RX6 (3, 13, 288, 44, 13) := ⟨by decide, _, rfl, ⟨rfl, mX5_init, rfl, xtb 406 (by decide +kernel) rfl, rfl, rfl, rfl, xtb 170 (by decide +kernel) rfl⟩⟩
theorem lk_627 : xLq RX6 (3, 61, 6, 2, 16) := ⟨by decide, _, rfl, ⟨rfl, (RX6, TX6, 6), .object "BentScreens$Rows", rfl, by decide, xtb 411 (by decide +kernel) rfl, rfl, (fun _ => rfl), by decide +kernel, Or.inl ⟨_, rfl⟩⟩⟩
theorem lk_628 : xLq RX6 (3, 61, 6, 3, 20) := ⟨by decide, _, rfl, ⟨rfl, (RX6, TX6, 6), .object "BentScreens$Rows", rfl, by decide, xtb 412 (by decide +kernel) rfl, rfl, (fun _ => rfl), by decide +kernel, Or.inl ⟨_, rfl⟩⟩⟩
theorem lk_629 : xLq RX6 (3, 61, 6, 0, 23) := ⟨by decide, _, rfl, ⟨rfl, (RX6, TX6, 6), .object "BentScreens$Told", rfl, by decide, xtb 409 (by decide +kernel) rfl, rfl, (fun _ => rfl), by decide +kernel, Or.inl ⟨_, rfl⟩⟩⟩
theorem lk_630 : xLq RX6 (3, 24, 8, 0, 27) := ⟨by decide, _, rfl, ⟨rfl, (RX8, TX8, 6), rfl, xtb 407 (by decide +kernel) rfl, xtb 335 (by decide +kernel) rfl, xtb 131 (by decide +kernel) rfl⟩⟩
theorem lk_631 : xLq RX6 (3, 1, 9, 0, 29) := ⟨by decide, _, rfl, ⟨rfl, (RX9, TX9, 14), rfl, by decide, xtb 256 (by decide +kernel) rfl⟩⟩
theorem lk_632 : xLq RX6 (3, 13, 313, 68, 35) := ⟨by decide, _, rfl, ⟨rfl, mX8_init, rfl, xtb 408 (by decide +kernel) rfl, rfl, rfl, rfl, xtb 337 (by decide +kernel) rfl⟩⟩
theorem lk_633 : xLq RX6 (3, 61, 6, 1, 38) := ⟨by decide, _, rfl, ⟨rfl, (RX6, TX6, 6), .object "BentScreens$Tokens", rfl, by decide, xtb 410 (by decide +kernel) rfl, rfl, (fun _ => rfl), by decide +kernel, Or.inl ⟨_, rfl⟩⟩⟩
theorem lk_634 : xLq RX6 (3, 1, 6, 1, 38) := ⟨by decide, _, rfl, ⟨rfl, (RX6, TX6, 6), rfl, by decide, xtb 410 (by decide +kernel) rfl⟩⟩
theorem lk_635 : xLq RX6 (2, 72, 9, 0, 138) := ⟨by decide, _, rfl, ⟨rfl, "slides", rfl, List.mem_of_getElem? (i := 1458) (by decide +kernel)⟩⟩
theorem lk_636 : xLq RX6 (3, 13, 318, 64, 97) := ⟨by decide, _, rfl, ⟨rfl, mX8_isWord, rfl, xtb 1443 (by decide +kernel) rfl, xtb 716 (by decide +kernel) rfl, xtb 717 (by decide +kernel) rfl, (RX8, TX8, 6), rfl, rfl⟩⟩
theorem lk_637 : xLq RX6 (2, 72, 10, 0, 140) := ⟨by decide, _, rfl, ⟨rfl, "whole", rfl, List.mem_of_getElem? (i := 1459) (by decide +kernel)⟩⟩
theorem lk_638 : xLq RX6 (2, 72, 11, 0, 142) := ⟨by decide, _, rfl, ⟨rfl, "layers", rfl, List.mem_of_getElem? (i := 1460) (by decide +kernel)⟩⟩
theorem lk_639 : xLq RX6 (2, 72, 12, 0, 144) := ⟨by decide, _, rfl, ⟨rfl, "least", rfl, List.mem_of_getElem? (i := 1461) (by decide +kernel)⟩⟩
theorem lk_640 : xLq RX6 (2, 72, 13, 0, 146) := ⟨by decide, _, rfl, ⟨rfl, "rows", rfl, List.mem_of_getElem? (i := 1462) (by decide +kernel)⟩⟩
theorem lk_641 : xLq RX6 (2, 72, 14, 0, 148) := ⟨by decide, _, rfl, ⟨rfl, "fed", rfl, List.mem_of_getElem? (i := 1463) (by decide +kernel)⟩⟩
theorem lk_642 : xLq RX6 (2, 72, 15, 0, 150) := ⟨by decide, _, rfl, ⟨rfl, "darks", rfl, List.mem_of_getElem? (i := 1464) (by decide +kernel)⟩⟩
theorem lk_643 : xLq RX6 (2, 72, 16, 0, 152) := ⟨by decide, _, rfl, ⟨rfl, "worth", rfl, List.mem_of_getElem? (i := 1465) (by decide +kernel)⟩⟩
theorem lk_644 : xLq RX6 (2, 72, 17, 0, 154) := ⟨by decide, _, rfl, ⟨rfl, "cracks", rfl, List.mem_of_getElem? (i := 1466) (by decide +kernel)⟩⟩
theorem lk_645 : xLq RX6 (2, 72, 18, 0, 156) := ⟨by decide, _, rfl, ⟨rfl, "kept", rfl, List.mem_of_getElem? (i := 1467) (by decide +kernel)⟩⟩
theorem lk_646 : xLq RX6 (2, 72, 19, 0, 158) := ⟨by decide, _, rfl, ⟨rfl, "day", rfl, List.mem_of_getElem? (i := 1468) (by decide +kernel)⟩⟩
theorem lk_647 : xLq RX6 (3, 1, 6, 4, 45) := ⟨by decide, _, rfl, ⟨rfl, (RX6, TX6, 6), rfl, by decide, xtb 413 (by decide +kernel) rfl⟩⟩
theorem lk_648 : xLq RX6 (3, 14, 6, 4, 45) := ⟨by decide, _, rfl, ⟨rfl, (RX6, TX6, 6), .int, rfl, by decide, xtb 413 (by decide +kernel) rfl, rfl, (fun h => by cases h), by decide +kernel, rfl⟩⟩
theorem lk_649 : xLq RX6 (3, 1, 8, 3, 63) := ⟨by decide, _, rfl, ⟨rfl, (RX8, TX8, 6), rfl, by decide, xtb 345 (by decide +kernel) rfl⟩⟩
theorem lk_650 : xLq RX6 (3, 14, 6, 5, 69) := ⟨by decide, _, rfl, ⟨rfl, (RX6, TX6, 6), .int, rfl, by decide, xtb 414 (by decide +kernel) rfl, rfl, (fun h => by cases h), by decide +kernel, rfl⟩⟩
theorem lk_651 : xLq RX6 (3, 1, 6, 2, 16) := ⟨by decide, _, rfl, ⟨rfl, (RX6, TX6, 6), rfl, by decide, xtb 411 (by decide +kernel) rfl⟩⟩
theorem lk_652 : xLq RX6 (3, 13, 289, 40, 85) := ⟨by decide, _, rfl, ⟨rfl, mX5_isFull, rfl, xtb 1436 (by decide +kernel) rfl, xtb 799 (by decide +kernel) rfl, xtb 800 (by decide +kernel) rfl, (RX5, TX5, 4), rfl, rfl⟩⟩
theorem lk_653 : xLq RX6 (3, 13, 293, 48, 88) := ⟨by decide, _, rfl, ⟨rfl, mX6_noteTooMany, rfl, xtb 1437 (by decide +kernel) rfl, xtb 1439 (by decide +kernel) rfl, xtb 48 (by decide +kernel) rfl, (RX6, TX6, 6), rfl, rfl⟩⟩
theorem lk_654 : xLq RX6 (3, 13, 286, 40, 91) := ⟨by decide, _, rfl, ⟨rfl, mX5_grow, rfl, xtb 1441 (by decide +kernel) rfl, xtb 822 (by decide +kernel) rfl, xtb 823 (by decide +kernel) rfl, (RX5, TX5, 4), rfl, rfl⟩⟩
theorem lk_655 : xLq RX6 (2, 72, 20, 0, 95) := ⟨by decide, _, rfl, ⟨rfl, "if", rfl, List.mem_of_getElem? (i := 1442) (by decide +kernel)⟩⟩
theorem lk_656 : xLq RX6 (3, 13, 297, 48, 101) := ⟨by decide, _, rfl, ⟨rfl, mX6_readTests, rfl, xtb 1444 (by decide +kernel) rfl, xtb 1446 (by decide +kernel) rfl, xtb 49 (by decide +kernel) rfl, (RX6, TX6, 6), rfl, rfl⟩⟩
theorem lk_657 : xLq RX6 (3, 13, 298, 48, 105) := ⟨by decide, _, rfl, ⟨rfl, mX6_verbOfWord, rfl, xtb 1472 (by decide +kernel) rfl, xtb 1474 (by decide +kernel) rfl, xtb 52 (by decide +kernel) rfl, (RX6, TX6, 6), rfl, rfl⟩⟩
theorem lk_658 : xLq RX6 (3, 13, 312, 64, 108) := ⟨by decide, _, rfl, ⟨rfl, mX8_advance, rfl, xtb 1448 (by decide +kernel) rfl, xtb 690 (by decide +kernel) rfl, xtb 691 (by decide +kernel) rfl, (RX8, TX8, 6), rfl, rfl⟩⟩
theorem lk_659 : xLq RX6 (3, 1, 8, 2, 56) := ⟨by decide, _, rfl, ⟨rfl, (RX8, TX8, 6), rfl, by decide, xtb 342 (by decide +kernel) rfl⟩⟩
theorem lk_660 : xLq RX6 (3, 1, 8, 5, 111) := ⟨by decide, _, rfl, ⟨rfl, (RX8, TX8, 6), rfl, by decide, xtb 350 (by decide +kernel) rfl⟩⟩
theorem lk_661 : xLq RX6 (3, 13, 316, 64, 114) := ⟨by decide, _, rfl, ⟨rfl, mX8_isSign, rfl, xtb 1469 (by decide +kernel) rfl, xtb 783 (by decide +kernel) rfl, xtb 784 (by decide +kernel) rfl, (RX8, TX8, 6), rfl, rfl⟩⟩
theorem lk_662 : xLq RX6 (3, 13, 290, 40, 118) := ⟨by decide, _, rfl, ⟨rfl, mX5_put, rfl, xtb 1470 (by decide +kernel) rfl, xtb 827 (by decide +kernel) rfl, xtb 828 (by decide +kernel) rfl, (RX5, TX5, 4), rfl, rfl⟩⟩
theorem lk_663 : xLq RX6 (3, 13, 283, 40, 42) := ⟨by decide, _, rfl, ⟨rfl, mX5_clear, rfl, xtb 1430 (by decide +kernel) rfl, xtb 679 (by decide +kernel) rfl, xtb 680 (by decide +kernel) rfl, (RX5, TX5, 4), rfl, rfl⟩⟩
theorem lk_664 : xLq RX6 (3, 1, 6, 3, 20) := ⟨by decide, _, rfl, ⟨rfl, (RX6, TX6, 6), rfl, by decide, xtb 412 (by decide +kernel) rfl⟩⟩
theorem lk_665 : xLq RX6 (3, 1, 6, 0, 23) := ⟨by decide, _, rfl, ⟨rfl, (RX6, TX6, 6), rfl, by decide, xtb 409 (by decide +kernel) rfl⟩⟩
theorem lk_666 : xLq RX6 (3, 1, 9, 1, 49) := ⟨by decide, _, rfl, ⟨rfl, (RX9, TX9, 14), rfl, by decide, xtb 260 (by decide +kernel) rfl⟩⟩
theorem lk_667 : xLq RX6 (3, 13, 319, 64, 52) := ⟨by decide, _, rfl, ⟨rfl, mX8_start, rfl, xtb 1431 (by decide +kernel) rfl, xtb 683 (by decide +kernel) rfl, xtb 684 (by decide +kernel) rfl, (RX8, TX8, 6), rfl, rfl⟩⟩
theorem lk_668 : xLq RX6 (3, 13, 294, 48, 59) := ⟨by decide, _, rfl, ⟨rfl, mX6_readLine, rfl, xtb 1432 (by decide +kernel) rfl, xtb 1434 (by decide +kernel) rfl, xtb 47 (by decide +kernel) rfl, (RX6, TX6, 6), rfl, rfl⟩⟩
