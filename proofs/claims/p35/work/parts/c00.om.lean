theorem om_ix {x i : Int} {j : Nat} (h : x = i + 8) (h2 : i = 8 * (j : Int)) : x = 8 * ((j + 1 : Nat) : Int) := by omega
theorem om_529 {x0 : Int} {x1 : Int} (h0 : x0 = 8 * x1) (h1 : 0 ≤ x1) : - 2147483648 ≤ x0 + 1 := by omega
theorem om_530 {x0 : Int} {x1 : Int} {x2 : Int} (h0 : x0 = 8 * x1) (h1 : 8 * x1 + 8 ≤ x2) (h2 : x2 ≤ 4096) : x0 + 1 ≤ 2147483647 := by omega
theorem om_531 {x0 : Int} {x1 : Int} {x2 : Int} (h0 : x0 = 8 * x1) (h1 : 0 ≤ x1) (h2 : x2 = x0 + 1) : 0 ≤ x2 := by omega
theorem om_532 {x0 : Int} {x1 : Int} {x2 : Int} {x3 : Int} (h0 : x0 = 8 * x1) (h1 : 8 * x1 + 8 ≤ x2) (h2 : x3 = x0 + 1) : x3 < x2 := by omega
theorem om_533 {x0 : Int} {x1 : Int} (h0 : x0 = 8 * x1) (h1 : 0 ≤ x1) : - 2147483648 ≤ x0 + 2 := by omega
theorem om_534 {x0 : Int} {x1 : Int} {x2 : Int} (h0 : x0 = 8 * x1) (h1 : 8 * x1 + 8 ≤ x2) (h2 : x2 ≤ 4096) : x0 + 2 ≤ 2147483647 := by omega
theorem om_535 {x0 : Int} {x1 : Int} {x2 : Int} (h0 : x0 = 8 * x1) (h1 : 0 ≤ x1) (h2 : x2 = x0 + 2) : 0 ≤ x2 := by omega
theorem om_536 {x0 : Int} {x1 : Int} {x2 : Int} {x3 : Int} (h0 : x0 = 8 * x1) (h1 : 8 * x1 + 8 ≤ x2) (h2 : x3 = x0 + 2) : x3 < x2 := by omega
theorem om_537 {x0 : Int} {x1 : Int} {x2 : Int} (h0 : x0 = x1 + 1) (h1 : x2 = x1 + 1) : x0 = x2 := by omega
theorem om_538 {x0 : Int} {x1 : Int} {x2 : Int} (h0 : x0 = x1 + 2) (h1 : x2 = x1 + 2) : x0 = x2 := by omega
theorem om_539 {x0 : Int} {x1 : Int} (h0 : x0 = 8 * x1) (h1 : 0 ≤ x1) : - 2147483648 ≤ x0 + 8 := by omega
theorem om_540 {x0 : Int} {x1 : Int} {x2 : Int} (h0 : x0 = 8 * x1) (h1 : 8 * x1 + 8 ≤ x2) (h2 : x2 ≤ 4096) : x0 + 8 ≤ 2147483647 := by omega
theorem om_541 {x0 : Int} {x1 : Int} (h0 : x0 = 8 * x1) (h1 : 0 ≤ x1) : - 2147483648 ≤ x0 + 3 := by omega
theorem om_542 {x0 : Int} {x1 : Int} {x2 : Int} (h0 : x0 = 8 * x1) (h1 : 8 * x1 + 8 ≤ x2) (h2 : x2 ≤ 4096) : x0 + 3 ≤ 2147483647 := by omega
theorem om_543 {x0 : Int} {x1 : Int} {x2 : Int} (h0 : x0 = 8 * x1) (h1 : 0 ≤ x1) (h2 : x2 = x0 + 3) : 0 ≤ x2 := by omega
theorem om_544 {x0 : Int} {x1 : Int} {x2 : Int} {x3 : Int} (h0 : x0 = 8 * x1) (h1 : 8 * x1 + 8 ≤ x2) (h2 : x3 = x0 + 3) : x3 < x2 := by omega
theorem om_545 {x0 : Int} {x1 : Int} {x2 : Int} (h0 : x0 = x1 + 3) (h1 : x2 = x1 + 3) : x0 = x2 := by omega
theorem om_546 {x0 : Int} {x1 : Int} (h0 : x0 = 8 * x1) (h1 : 0 ≤ x1) : - 2147483648 ≤ x0 + 4 := by omega
theorem om_547 {x0 : Int} {x1 : Int} {x2 : Int} (h0 : x0 = 8 * x1) (h1 : 8 * x1 + 8 ≤ x2) (h2 : x2 ≤ 4096) : x0 + 4 ≤ 2147483647 := by omega
theorem om_548 {x0 : Int} {x1 : Int} {x2 : Int} (h0 : x0 = 8 * x1) (h1 : 0 ≤ x1) (h2 : x2 = x0 + 4) : 0 ≤ x2 := by omega
theorem om_549 {x0 : Int} {x1 : Int} {x2 : Int} {x3 : Int} (h0 : x0 = 8 * x1) (h1 : 8 * x1 + 8 ≤ x2) (h2 : x3 = x0 + 4) : x3 < x2 := by omega
theorem om_550 {x0 : Int} {x1 : Int} {x2 : Int} (h0 : x0 = x1 + 4) (h1 : x2 = x1 + 4) : x0 = x2 := by omega
theorem om_551 {x0 : Int} {x1 : Int} (h0 : x0 = 8 * x1) (h1 : 0 ≤ x1) : - 2147483648 ≤ x0 + 5 := by omega
theorem om_552 {x0 : Int} {x1 : Int} {x2 : Int} (h0 : x0 = 8 * x1) (h1 : 8 * x1 + 8 ≤ x2) (h2 : x2 ≤ 4096) : x0 + 5 ≤ 2147483647 := by omega
theorem om_553 {x0 : Int} {x1 : Int} {x2 : Int} (h0 : x0 = 8 * x1) (h1 : 0 ≤ x1) (h2 : x2 = x0 + 5) : 0 ≤ x2 := by omega
theorem om_554 {x0 : Int} {x1 : Int} {x2 : Int} {x3 : Int} (h0 : x0 = 8 * x1) (h1 : 8 * x1 + 8 ≤ x2) (h2 : x3 = x0 + 5) : x3 < x2 := by omega
theorem om_555 {x0 : Int} {x1 : Int} (h0 : x0 = 8 * x1) (h1 : 0 ≤ x1) : - 2147483648 ≤ x0 + 6 := by omega
theorem om_556 {x0 : Int} {x1 : Int} {x2 : Int} (h0 : x0 = 8 * x1) (h1 : 8 * x1 + 8 ≤ x2) (h2 : x2 ≤ 4096) : x0 + 6 ≤ 2147483647 := by omega
theorem om_557 {x0 : Int} {x1 : Int} {x2 : Int} (h0 : x0 = 8 * x1) (h1 : 0 ≤ x1) (h2 : x2 = x0 + 6) : 0 ≤ x2 := by omega
theorem om_558 {x0 : Int} {x1 : Int} {x2 : Int} {x3 : Int} (h0 : x0 = 8 * x1) (h1 : 8 * x1 + 8 ≤ x2) (h2 : x3 = x0 + 6) : x3 < x2 := by omega
theorem om_559 {x0 : Int} {x1 : Int} {x2 : Int} (h0 : x0 = x1 + 5) (h1 : x2 = x1 + 5) : x0 = x2 := by omega
theorem om_560 {x0 : Int} {x1 : Int} {x2 : Int} (h0 : x0 = x1 + 6) (h1 : x2 = x1 + 6) : x0 = x2 := by omega
theorem om_561 {x0 : Int} {x1 : Int} (h0 : x0 = 8 * x1) (h1 : 0 ≤ x1) : - 2147483648 ≤ x0 + 7 := by omega
theorem om_562 {x0 : Int} {x1 : Int} {x2 : Int} (h0 : x0 = 8 * x1) (h1 : 8 * x1 + 8 ≤ x2) (h2 : x2 ≤ 4096) : x0 + 7 ≤ 2147483647 := by omega
theorem om_563 {x0 : Int} {x1 : Int} {x2 : Int} (h0 : x0 = 8 * x1) (h1 : 0 ≤ x1) (h2 : x2 = x0 + 7) : 0 ≤ x2 := by omega
theorem om_564 {x0 : Int} {x1 : Int} {x2 : Int} {x3 : Int} (h0 : x0 = 8 * x1) (h1 : 8 * x1 + 8 ≤ x2) (h2 : x3 = x0 + 7) : x3 < x2 := by omega
theorem om_565 {x0 : Int} {x1 : Int} {x2 : Int} (h0 : x0 = x1 + 7) (h1 : x2 = x1 + 7) : x0 = x2 := by omega

