theorem om_ix {x i : Int} {j : Nat} (h : x = i + 8) (h2 : i = 8 * (j : Int)) : x = 8 * ((j + 1 : Nat) : Int) := by omega
theorem om_496 {x0 : Int} {x1 : Int} (h0 : x0 = 8 * x1) (h1 : 0 ≤ x1) : - 2147483648 ≤ x0 + 1 := by omega
theorem om_497 {x0 : Int} {x1 : Int} {x2 : Int} (h0 : x0 = 8 * x1) (h1 : 8 * x1 + 8 ≤ x2) (h2 : x2 ≤ 4096) : x0 + 1 ≤ 2147483647 := by omega
theorem om_498 {x0 : Int} {x1 : Int} {x2 : Int} (h0 : x0 = 8 * x1) (h1 : 0 ≤ x1) (h2 : x2 = x0 + 1) : 0 ≤ x2 := by omega
theorem om_499 {x0 : Int} {x1 : Int} {x2 : Int} {x3 : Int} (h0 : x0 = 8 * x1) (h1 : 8 * x1 + 8 ≤ x2) (h2 : x3 = x0 + 1) : x3 < x2 := by omega
theorem om_500 {x0 : Int} {x1 : Int} (h0 : x0 = 8 * x1) (h1 : 0 ≤ x1) : - 2147483648 ≤ x0 + 2 := by omega
theorem om_501 {x0 : Int} {x1 : Int} {x2 : Int} (h0 : x0 = 8 * x1) (h1 : 8 * x1 + 8 ≤ x2) (h2 : x2 ≤ 4096) : x0 + 2 ≤ 2147483647 := by omega
theorem om_502 {x0 : Int} {x1 : Int} {x2 : Int} (h0 : x0 = 8 * x1) (h1 : 0 ≤ x1) (h2 : x2 = x0 + 2) : 0 ≤ x2 := by omega
theorem om_503 {x0 : Int} {x1 : Int} {x2 : Int} {x3 : Int} (h0 : x0 = 8 * x1) (h1 : 8 * x1 + 8 ≤ x2) (h2 : x3 = x0 + 2) : x3 < x2 := by omega
theorem om_504 {x0 : Int} {x1 : Int} {x2 : Int} (h0 : x0 = x1 + 1) (h1 : x2 = x1 + 1) : x0 = x2 := by omega
theorem om_505 {x0 : Int} {x1 : Int} {x2 : Int} (h0 : x0 = x1 + 2) (h1 : x2 = x1 + 2) : x0 = x2 := by omega
theorem om_506 {x0 : Int} {x1 : Int} (h0 : x0 = 8 * x1) (h1 : 0 ≤ x1) : - 2147483648 ≤ x0 + 8 := by omega
theorem om_507 {x0 : Int} {x1 : Int} {x2 : Int} (h0 : x0 = 8 * x1) (h1 : 8 * x1 + 8 ≤ x2) (h2 : x2 ≤ 4096) : x0 + 8 ≤ 2147483647 := by omega
theorem om_508 {x0 : Int} {x1 : Int} (h0 : x0 = 8 * x1) (h1 : 0 ≤ x1) : - 2147483648 ≤ x0 + 3 := by omega
theorem om_509 {x0 : Int} {x1 : Int} {x2 : Int} (h0 : x0 = 8 * x1) (h1 : 8 * x1 + 8 ≤ x2) (h2 : x2 ≤ 4096) : x0 + 3 ≤ 2147483647 := by omega
theorem om_510 {x0 : Int} {x1 : Int} {x2 : Int} (h0 : x0 = 8 * x1) (h1 : 0 ≤ x1) (h2 : x2 = x0 + 3) : 0 ≤ x2 := by omega
theorem om_511 {x0 : Int} {x1 : Int} {x2 : Int} {x3 : Int} (h0 : x0 = 8 * x1) (h1 : 8 * x1 + 8 ≤ x2) (h2 : x3 = x0 + 3) : x3 < x2 := by omega
theorem om_512 {x0 : Int} {x1 : Int} {x2 : Int} (h0 : x0 = x1 + 3) (h1 : x2 = x1 + 3) : x0 = x2 := by omega
theorem om_513 {x0 : Int} {x1 : Int} (h0 : x0 = 8 * x1) (h1 : 0 ≤ x1) : - 2147483648 ≤ x0 + 4 := by omega
theorem om_514 {x0 : Int} {x1 : Int} {x2 : Int} (h0 : x0 = 8 * x1) (h1 : 8 * x1 + 8 ≤ x2) (h2 : x2 ≤ 4096) : x0 + 4 ≤ 2147483647 := by omega
theorem om_515 {x0 : Int} {x1 : Int} {x2 : Int} (h0 : x0 = 8 * x1) (h1 : 0 ≤ x1) (h2 : x2 = x0 + 4) : 0 ≤ x2 := by omega
theorem om_516 {x0 : Int} {x1 : Int} {x2 : Int} {x3 : Int} (h0 : x0 = 8 * x1) (h1 : 8 * x1 + 8 ≤ x2) (h2 : x3 = x0 + 4) : x3 < x2 := by omega
theorem om_517 {x0 : Int} {x1 : Int} {x2 : Int} (h0 : x0 = x1 + 4) (h1 : x2 = x1 + 4) : x0 = x2 := by omega
theorem om_518 {x0 : Int} {x1 : Int} (h0 : x0 = 8 * x1) (h1 : 0 ≤ x1) : - 2147483648 ≤ x0 + 5 := by omega
theorem om_519 {x0 : Int} {x1 : Int} {x2 : Int} (h0 : x0 = 8 * x1) (h1 : 8 * x1 + 8 ≤ x2) (h2 : x2 ≤ 4096) : x0 + 5 ≤ 2147483647 := by omega
theorem om_520 {x0 : Int} {x1 : Int} {x2 : Int} (h0 : x0 = 8 * x1) (h1 : 0 ≤ x1) (h2 : x2 = x0 + 5) : 0 ≤ x2 := by omega
theorem om_521 {x0 : Int} {x1 : Int} {x2 : Int} {x3 : Int} (h0 : x0 = 8 * x1) (h1 : 8 * x1 + 8 ≤ x2) (h2 : x3 = x0 + 5) : x3 < x2 := by omega
theorem om_522 {x0 : Int} {x1 : Int} (h0 : x0 = 8 * x1) (h1 : 0 ≤ x1) : - 2147483648 ≤ x0 + 6 := by omega
theorem om_523 {x0 : Int} {x1 : Int} {x2 : Int} (h0 : x0 = 8 * x1) (h1 : 8 * x1 + 8 ≤ x2) (h2 : x2 ≤ 4096) : x0 + 6 ≤ 2147483647 := by omega
theorem om_524 {x0 : Int} {x1 : Int} {x2 : Int} (h0 : x0 = 8 * x1) (h1 : 0 ≤ x1) (h2 : x2 = x0 + 6) : 0 ≤ x2 := by omega
theorem om_525 {x0 : Int} {x1 : Int} {x2 : Int} {x3 : Int} (h0 : x0 = 8 * x1) (h1 : 8 * x1 + 8 ≤ x2) (h2 : x3 = x0 + 6) : x3 < x2 := by omega
theorem om_526 {x0 : Int} {x1 : Int} {x2 : Int} (h0 : x0 = x1 + 5) (h1 : x2 = x1 + 5) : x0 = x2 := by omega
theorem om_527 {x0 : Int} {x1 : Int} {x2 : Int} (h0 : x0 = x1 + 6) (h1 : x2 = x1 + 6) : x0 = x2 := by omega
theorem om_528 {x0 : Int} {x1 : Int} (h0 : x0 = 8 * x1) (h1 : 0 ≤ x1) : - 2147483648 ≤ x0 + 7 := by omega
theorem om_529 {x0 : Int} {x1 : Int} {x2 : Int} (h0 : x0 = 8 * x1) (h1 : 8 * x1 + 8 ≤ x2) (h2 : x2 ≤ 4096) : x0 + 7 ≤ 2147483647 := by omega
theorem om_530 {x0 : Int} {x1 : Int} {x2 : Int} (h0 : x0 = 8 * x1) (h1 : 0 ≤ x1) (h2 : x2 = x0 + 7) : 0 ≤ x2 := by omega
theorem om_531 {x0 : Int} {x1 : Int} {x2 : Int} {x3 : Int} (h0 : x0 = 8 * x1) (h1 : 8 * x1 + 8 ≤ x2) (h2 : x3 = x0 + 7) : x3 < x2 := by omega
theorem om_532 {x0 : Int} {x1 : Int} {x2 : Int} (h0 : x0 = x1 + 7) (h1 : x2 = x1 + 7) : x0 = x2 := by omega

