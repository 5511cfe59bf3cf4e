theorem om_ix {x i : Int} {j : Nat} (h : x = i + 8) (h2 : i = 8 * (j : Int)) : x = 8 * ((j + 1 : Nat) : Int) := by omega
theorem om_325 {x0 : Int} {x1 : Int} (h0 : x0 = 8 * x1) (h1 : 0 ≤ x1) : - 2147483648 ≤ x0 + 1 := by omega
theorem om_326 {x0 : Int} {x1 : Int} {x2 : Int} (h0 : x0 = 8 * x1) (h1 : 8 * x1 + 8 ≤ x2) (h2 : x2 ≤ 4096) : x0 + 1 ≤ 2147483647 := by omega
theorem om_327 {x0 : Int} {x1 : Int} {x2 : Int} (h0 : x0 = 8 * x1) (h1 : 0 ≤ x1) (h2 : x2 = x0 + 1) : 0 ≤ x2 := by omega
theorem om_328 {x0 : Int} {x1 : Int} {x2 : Int} {x3 : Int} (h0 : x0 = 8 * x1) (h1 : 8 * x1 + 8 ≤ x2) (h2 : x3 = x0 + 1) : x3 < x2 := by omega
theorem om_329 {x0 : Int} {x1 : Int} (h0 : x0 = 8 * x1) (h1 : 0 ≤ x1) : - 2147483648 ≤ x0 + 2 := by omega
theorem om_330 {x0 : Int} {x1 : Int} {x2 : Int} (h0 : x0 = 8 * x1) (h1 : 8 * x1 + 8 ≤ x2) (h2 : x2 ≤ 4096) : x0 + 2 ≤ 2147483647 := by omega
theorem om_331 {x0 : Int} {x1 : Int} {x2 : Int} (h0 : x0 = 8 * x1) (h1 : 0 ≤ x1) (h2 : x2 = x0 + 2) : 0 ≤ x2 := by omega
theorem om_332 {x0 : Int} {x1 : Int} {x2 : Int} {x3 : Int} (h0 : x0 = 8 * x1) (h1 : 8 * x1 + 8 ≤ x2) (h2 : x3 = x0 + 2) : x3 < x2 := by omega
theorem om_333 {x0 : Int} {x1 : Int} {x2 : Int} (h0 : x0 = x1 + 1) (h1 : x2 = x1 + 1) : x0 = x2 := by omega
theorem om_334 {x0 : Int} {x1 : Int} {x2 : Int} (h0 : x0 = x1 + 2) (h1 : x2 = x1 + 2) : x0 = x2 := by omega
theorem om_335 {x0 : Int} {x1 : Int} (h0 : x0 = 8 * x1) (h1 : 0 ≤ x1) : - 2147483648 ≤ x0 + 8 := by omega
theorem om_336 {x0 : Int} {x1 : Int} {x2 : Int} (h0 : x0 = 8 * x1) (h1 : 8 * x1 + 8 ≤ x2) (h2 : x2 ≤ 4096) : x0 + 8 ≤ 2147483647 := by omega
theorem om_337 {x0 : Int} {x1 : Int} (h0 : x0 = 8 * x1) (h1 : 0 ≤ x1) : - 2147483648 ≤ x0 + 3 := by omega
theorem om_338 {x0 : Int} {x1 : Int} {x2 : Int} (h0 : x0 = 8 * x1) (h1 : 8 * x1 + 8 ≤ x2) (h2 : x2 ≤ 4096) : x0 + 3 ≤ 2147483647 := by omega
theorem om_339 {x0 : Int} {x1 : Int} {x2 : Int} (h0 : x0 = 8 * x1) (h1 : 0 ≤ x1) (h2 : x2 = x0 + 3) : 0 ≤ x2 := by omega
theorem om_340 {x0 : Int} {x1 : Int} {x2 : Int} {x3 : Int} (h0 : x0 = 8 * x1) (h1 : 8 * x1 + 8 ≤ x2) (h2 : x3 = x0 + 3) : x3 < x2 := by omega
theorem om_341 {x0 : Int} {x1 : Int} {x2 : Int} (h0 : x0 = x1 + 3) (h1 : x2 = x1 + 3) : x0 = x2 := by omega
theorem om_342 {x0 : Int} {x1 : Int} (h0 : x0 = 8 * x1) (h1 : 0 ≤ x1) : - 2147483648 ≤ x0 + 4 := by omega
theorem om_343 {x0 : Int} {x1 : Int} {x2 : Int} (h0 : x0 = 8 * x1) (h1 : 8 * x1 + 8 ≤ x2) (h2 : x2 ≤ 4096) : x0 + 4 ≤ 2147483647 := by omega
theorem om_344 {x0 : Int} {x1 : Int} {x2 : Int} (h0 : x0 = 8 * x1) (h1 : 0 ≤ x1) (h2 : x2 = x0 + 4) : 0 ≤ x2 := by omega
theorem om_345 {x0 : Int} {x1 : Int} {x2 : Int} {x3 : Int} (h0 : x0 = 8 * x1) (h1 : 8 * x1 + 8 ≤ x2) (h2 : x3 = x0 + 4) : x3 < x2 := by omega
theorem om_346 {x0 : Int} {x1 : Int} {x2 : Int} (h0 : x0 = x1 + 4) (h1 : x2 = x1 + 4) : x0 = x2 := by omega
theorem om_347 {x0 : Int} {x1 : Int} (h0 : x0 = 8 * x1) (h1 : 0 ≤ x1) : - 2147483648 ≤ x0 + 5 := by omega
theorem om_348 {x0 : Int} {x1 : Int} {x2 : Int} (h0 : x0 = 8 * x1) (h1 : 8 * x1 + 8 ≤ x2) (h2 : x2 ≤ 4096) : x0 + 5 ≤ 2147483647 := by omega
theorem om_349 {x0 : Int} {x1 : Int} {x2 : Int} (h0 : x0 = 8 * x1) (h1 : 0 ≤ x1) (h2 : x2 = x0 + 5) : 0 ≤ x2 := by omega
theorem om_350 {x0 : Int} {x1 : Int} {x2 : Int} {x3 : Int} (h0 : x0 = 8 * x1) (h1 : 8 * x1 + 8 ≤ x2) (h2 : x3 = x0 + 5) : x3 < x2 := by omega
theorem om_351 {x0 : Int} {x1 : Int} (h0 : x0 = 8 * x1) (h1 : 0 ≤ x1) : - 2147483648 ≤ x0 + 6 := by omega
theorem om_352 {x0 : Int} {x1 : Int} {x2 : Int} (h0 : x0 = 8 * x1) (h1 : 8 * x1 + 8 ≤ x2) (h2 : x2 ≤ 4096) : x0 + 6 ≤ 2147483647 := by omega
theorem om_353 {x0 : Int} {x1 : Int} {x2 : Int} (h0 : x0 = 8 * x1) (h1 : 0 ≤ x1) (h2 : x2 = x0 + 6) : 0 ≤ x2 := by omega
theorem om_354 {x0 : Int} {x1 : Int} {x2 : Int} {x3 : Int} (h0 : x0 = 8 * x1) (h1 : 8 * x1 + 8 ≤ x2) (h2 : x3 = x0 + 6) : x3 < x2 := by omega
theorem om_355 {x0 : Int} {x1 : Int} {x2 : Int} (h0 : x0 = x1 + 5) (h1 : x2 = x1 + 5) : x0 = x2 := by omega
theorem om_356 {x0 : Int} {x1 : Int} {x2 : Int} (h0 : x0 = x1 + 6) (h1 : x2 = x1 + 6) : x0 = x2 := by omega
theorem om_357 {x0 : Int} {x1 : Int} (h0 : x0 = 8 * x1) (h1 : 0 ≤ x1) : - 2147483648 ≤ x0 + 7 := by omega
theorem om_358 {x0 : Int} {x1 : Int} {x2 : Int} (h0 : x0 = 8 * x1) (h1 : 8 * x1 + 8 ≤ x2) (h2 : x2 ≤ 4096) : x0 + 7 ≤ 2147483647 := by omega
theorem om_359 {x0 : Int} {x1 : Int} {x2 : Int} (h0 : x0 = 8 * x1) (h1 : 0 ≤ x1) (h2 : x2 = x0 + 7) : 0 ≤ x2 := by omega
theorem om_360 {x0 : Int} {x1 : Int} {x2 : Int} {x3 : Int} (h0 : x0 = 8 * x1) (h1 : 8 * x1 + 8 ≤ x2) (h2 : x3 = x0 + 7) : x3 < x2 := by omega
theorem om_361 {x0 : Int} {x1 : Int} {x2 : Int} (h0 : x0 = x1 + 7) (h1 : x2 = x1 + 7) : x0 = x2 := by omega

