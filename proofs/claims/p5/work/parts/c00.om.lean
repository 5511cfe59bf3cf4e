theorem om_ix {x i : Int} {j : Nat} (h : x = i + 8) (h2 : i = 8 * (j : Int)) : x = 8 * ((j + 1 : Nat) : Int) := by omega
theorem om_388 {x0 : Int} {x1 : Int} (h0 : x0 = 8 * x1) (h1 : 0 ≤ x1) : - 2147483648 ≤ x0 + 1 := by omega
theorem om_389 {x0 : Int} {x1 : Int} {x2 : Int} (h0 : x0 = 8 * x1) (h1 : 8 * x1 + 8 ≤ x2) (h2 : x2 ≤ 4096) : x0 + 1 ≤ 2147483647 := by omega
theorem om_390 {x0 : Int} {x1 : Int} {x2 : Int} (h0 : x0 = 8 * x1) (h1 : 0 ≤ x1) (h2 : x2 = x0 + 1) : 0 ≤ x2 := by omega
theorem om_391 {x0 : Int} {x1 : Int} {x2 : Int} {x3 : Int} (h0 : x0 = 8 * x1) (h1 : 8 * x1 + 8 ≤ x2) (h2 : x3 = x0 + 1) : x3 < x2 := by omega
theorem om_392 {x0 : Int} {x1 : Int} (h0 : x0 = 8 * x1) (h1 : 0 ≤ x1) : - 2147483648 ≤ x0 + 2 := by omega
theorem om_393 {x0 : Int} {x1 : Int} {x2 : Int} (h0 : x0 = 8 * x1) (h1 : 8 * x1 + 8 ≤ x2) (h2 : x2 ≤ 4096) : x0 + 2 ≤ 2147483647 := by omega
theorem om_394 {x0 : Int} {x1 : Int} {x2 : Int} (h0 : x0 = 8 * x1) (h1 : 0 ≤ x1) (h2 : x2 = x0 + 2) : 0 ≤ x2 := by omega
theorem om_395 {x0 : Int} {x1 : Int} {x2 : Int} {x3 : Int} (h0 : x0 = 8 * x1) (h1 : 8 * x1 + 8 ≤ x2) (h2 : x3 = x0 + 2) : x3 < x2 := by omega
theorem om_396 {x0 : Int} {x1 : Int} {x2 : Int} (h0 : x0 = x1 + 1) (h1 : x2 = x1 + 1) : x0 = x2 := by omega
theorem om_397 {x0 : Int} {x1 : Int} {x2 : Int} (h0 : x0 = x1 + 2) (h1 : x2 = x1 + 2) : x0 = x2 := by omega
theorem om_398 {x0 : Int} {x1 : Int} (h0 : x0 = 8 * x1) (h1 : 0 ≤ x1) : - 2147483648 ≤ x0 + 8 := by omega
theorem om_399 {x0 : Int} {x1 : Int} {x2 : Int} (h0 : x0 = 8 * x1) (h1 : 8 * x1 + 8 ≤ x2) (h2 : x2 ≤ 4096) : x0 + 8 ≤ 2147483647 := by omega
theorem om_400 {x0 : Int} {x1 : Int} (h0 : x0 = 8 * x1) (h1 : 0 ≤ x1) : - 2147483648 ≤ x0 + 3 := by omega
theorem om_401 {x0 : Int} {x1 : Int} {x2 : Int} (h0 : x0 = 8 * x1) (h1 : 8 * x1 + 8 ≤ x2) (h2 : x2 ≤ 4096) : x0 + 3 ≤ 2147483647 := by omega
theorem om_402 {x0 : Int} {x1 : Int} {x2 : Int} (h0 : x0 = 8 * x1) (h1 : 0 ≤ x1) (h2 : x2 = x0 + 3) : 0 ≤ x2 := by omega
theorem om_403 {x0 : Int} {x1 : Int} {x2 : Int} {x3 : Int} (h0 : x0 = 8 * x1) (h1 : 8 * x1 + 8 ≤ x2) (h2 : x3 = x0 + 3) : x3 < x2 := by omega
theorem om_404 {x0 : Int} {x1 : Int} {x2 : Int} (h0 : x0 = x1 + 3) (h1 : x2 = x1 + 3) : x0 = x2 := by omega
theorem om_405 {x0 : Int} {x1 : Int} (h0 : x0 = 8 * x1) (h1 : 0 ≤ x1) : - 2147483648 ≤ x0 + 4 := by omega
theorem om_406 {x0 : Int} {x1 : Int} {x2 : Int} (h0 : x0 = 8 * x1) (h1 : 8 * x1 + 8 ≤ x2) (h2 : x2 ≤ 4096) : x0 + 4 ≤ 2147483647 := by omega
theorem om_407 {x0 : Int} {x1 : Int} {x2 : Int} (h0 : x0 = 8 * x1) (h1 : 0 ≤ x1) (h2 : x2 = x0 + 4) : 0 ≤ x2 := by omega
theorem om_408 {x0 : Int} {x1 : Int} {x2 : Int} {x3 : Int} (h0 : x0 = 8 * x1) (h1 : 8 * x1 + 8 ≤ x2) (h2 : x3 = x0 + 4) : x3 < x2 := by omega
theorem om_409 {x0 : Int} {x1 : Int} {x2 : Int} (h0 : x0 = x1 + 4) (h1 : x2 = x1 + 4) : x0 = x2 := by omega
theorem om_410 {x0 : Int} {x1 : Int} (h0 : x0 = 8 * x1) (h1 : 0 ≤ x1) : - 2147483648 ≤ x0 + 5 := by omega
theorem om_411 {x0 : Int} {x1 : Int} {x2 : Int} (h0 : x0 = 8 * x1) (h1 : 8 * x1 + 8 ≤ x2) (h2 : x2 ≤ 4096) : x0 + 5 ≤ 2147483647 := by omega
theorem om_412 {x0 : Int} {x1 : Int} {x2 : Int} (h0 : x0 = 8 * x1) (h1 : 0 ≤ x1) (h2 : x2 = x0 + 5) : 0 ≤ x2 := by omega
theorem om_413 {x0 : Int} {x1 : Int} {x2 : Int} {x3 : Int} (h0 : x0 = 8 * x1) (h1 : 8 * x1 + 8 ≤ x2) (h2 : x3 = x0 + 5) : x3 < x2 := by omega
theorem om_414 {x0 : Int} {x1 : Int} (h0 : x0 = 8 * x1) (h1 : 0 ≤ x1) : - 2147483648 ≤ x0 + 6 := by omega
theorem om_415 {x0 : Int} {x1 : Int} {x2 : Int} (h0 : x0 = 8 * x1) (h1 : 8 * x1 + 8 ≤ x2) (h2 : x2 ≤ 4096) : x0 + 6 ≤ 2147483647 := by omega
theorem om_416 {x0 : Int} {x1 : Int} {x2 : Int} (h0 : x0 = 8 * x1) (h1 : 0 ≤ x1) (h2 : x2 = x0 + 6) : 0 ≤ x2 := by omega
theorem om_417 {x0 : Int} {x1 : Int} {x2 : Int} {x3 : Int} (h0 : x0 = 8 * x1) (h1 : 8 * x1 + 8 ≤ x2) (h2 : x3 = x0 + 6) : x3 < x2 := by omega
theorem om_418 {x0 : Int} {x1 : Int} {x2 : Int} (h0 : x0 = x1 + 5) (h1 : x2 = x1 + 5) : x0 = x2 := by omega
theorem om_419 {x0 : Int} {x1 : Int} {x2 : Int} (h0 : x0 = x1 + 6) (h1 : x2 = x1 + 6) : x0 = x2 := by omega
theorem om_420 {x0 : Int} {x1 : Int} (h0 : x0 = 8 * x1) (h1 : 0 ≤ x1) : - 2147483648 ≤ x0 + 7 := by omega
theorem om_421 {x0 : Int} {x1 : Int} {x2 : Int} (h0 : x0 = 8 * x1) (h1 : 8 * x1 + 8 ≤ x2) (h2 : x2 ≤ 4096) : x0 + 7 ≤ 2147483647 := by omega
theorem om_422 {x0 : Int} {x1 : Int} {x2 : Int} (h0 : x0 = 8 * x1) (h1 : 0 ≤ x1) (h2 : x2 = x0 + 7) : 0 ≤ x2 := by omega
theorem om_423 {x0 : Int} {x1 : Int} {x2 : Int} {x3 : Int} (h0 : x0 = 8 * x1) (h1 : 8 * x1 + 8 ≤ x2) (h2 : x3 = x0 + 7) : x3 < x2 := by omega
theorem om_424 {x0 : Int} {x1 : Int} {x2 : Int} (h0 : x0 = x1 + 7) (h1 : x2 = x1 + 7) : x0 = x2 := by omega

