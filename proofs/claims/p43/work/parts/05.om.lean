theorem om_dv {x y : Int} (h : y = x / 2) : 2 * y ≤ x ∧ x ≤ 2 * y + 1 := by omega
theorem om_ln {k n : Nat} {x : Int} (h : (k : Int) = x) (h2 : x < ((n : Nat) : Int)) : k < n := by omega
theorem om_mu {a b : Int} {n : Nat} (hn : b.toNat < n + 1) (h1 : a + 1 ≤ b) (h2 : 0 < b) : a.toNat < n := by omega
theorem om_0 {x0 : Int} {x1 : Int} (h0 : 0 ≤ x0) (h1 : x0 ≤ x1) : 0 ≤ x1 := by omega
theorem om_1 {x0 : Int} {x1 : Int} (h0 : x0 ≤ 160) (h1 : x1 < x0) : x1 < ((160 : Nat) : Int) := by omega
theorem om_2 {x0 : Int} {x1 : Int} (h0 : 0 ≤ x0) (h1 : x0 ≤ x1) : - 2147483648 ≤ x1 + 1 := by omega
theorem om_3 {x0 : Int} {x1 : Int} (h0 : x0 ≤ 160) (h1 : x1 < x0) : x1 + 1 ≤ 2147483647 := by omega
theorem om_4 {x0 : Int} {x1 : Int} {x2 : Int} (h0 : x0 ≤ x1) (h1 : x2 = x1 + 1) : x0 ≤ x2 := by omega
theorem om_5 {x0 : Int} {x1 : Int} {x2 : Int} (h0 : x0 = x1 + 1) : ( x2 - x0 ) + 1 ≤ x2 - x1 := by omega
theorem om_6 {x0 : Int} {x1 : Int} (h0 : x0 < x1) : 0 < x1 - x0 := by omega
theorem om_7 {x0 : Int}  : x0 ≤ x0 := by omega
theorem om_8 {x0 : Int} (h0 : x0 < 0) : x0 < 0 := by omega
theorem om_9 {x0 : Int} {x1 : Int} (h0 : x0 ≤ x1) : x0 ≤ x1 := by omega
theorem om_10 {x0 : Int} (h0 : 0 ≤ x0) : 0 ≤ x0 := by omega
theorem om_11 {x0 : Int} {x1 : Int} (h0 : x0 < x1) : x0 < x1 := by omega
theorem om_12 {x0 : Int} (h0 : x0 < 160) : x0 < ((160 : Nat) : Int) := by omega
theorem om_13 {x0 : Int} (h0 : 0 ≤ x0) : - 2147483648 ≤ x0 + 1 := by omega
theorem om_14 {x0 : Int} (h0 : x0 < 160) : x0 + 1 ≤ 2147483647 := by omega
theorem om_15 {x0 : Int} {x1 : Int} (h0 : x0 ≤ x1) (h1 : x1 < 160) : x0 < ((160 : Nat) : Int) := by omega
theorem om_16 {x0 : Int} {x1 : Int} (h0 : x0 ≤ x1) (h1 : 0 ≤ x0) : - 2147483648 ≤ x1 + 1 := by omega
theorem om_17 {x0 : Int} {x1 : Int} (h0 : 0 ≤ x0) (h1 : x0 < x1) : - 2147483648 ≤ x1 - 1 := by omega
theorem om_18 {x0 : Int} {x1 : Int} (h0 : x0 < 160) (h1 : x1 ≤ x0) : x1 - 1 ≤ 2147483647 := by omega
theorem om_19 {x0 : Int} {x1 : Int} {x2 : Int} (h0 : 0 ≤ x0) (h1 : x0 < x1) (h2 : x2 = x1 - 1) : 0 ≤ x2 := by omega
theorem om_20 {x0 : Int} {x1 : Int} {x2 : Int} (h0 : x0 < 160) (h1 : x1 ≤ x0) (h2 : x2 = x1 - 1) : x2 < ((160 : Nat) : Int) := by omega
theorem om_21 {x0 : Int} {x1 : Int} (h0 : 0 ≤ x0) (h1 : x0 < x1) : 0 ≤ x1 := by omega
theorem om_22 {x0 : Int} {x1 : Int} (h0 : x0 < 160) (h1 : x1 ≤ x0) : x1 < ((160 : Nat) : Int) := by omega
theorem om_23 {x0 : Int} {x1 : Int} (h0 : 0 ≤ x0) (h1 : x0 < x1) : - 2147483648 ≤ x1 + ( - 1 ) := by omega
theorem om_24 {x0 : Int} {x1 : Int} (h0 : x0 < 160) (h1 : x1 ≤ x0) : x1 + ( - 1 ) ≤ 2147483647 := by omega
theorem om_25 {x0 : Int} {x1 : Int} {x2 : Int} (h0 : x0 < x1) (h1 : x2 = x1 + ( - 1 )) : x0 ≤ x2 := by omega
theorem om_26 {x0 : Int} {x1 : Int} {x2 : Int} (h0 : x0 ≤ x1) (h1 : x2 = x0 + ( - 1 )) : x2 ≤ x1 := by omega
theorem om_27 {x0 : Int} {x1 : Int} (h0 : x0 = x1 + ( - 1 )) : ( x0 ) + 1 ≤ x1 := by omega
theorem om_28 {x0 : Int} {x1 : Int} (h0 : 0 ≤ x0) (h1 : x0 < x1) : 0 < x1 := by omega
theorem om_29  : ((0 : Int) : Int) ≤ 1 := by omega
theorem om_30 {x0 : Int} (h0 : x0 < 12) : x0 < ((12 : Nat) : Int) := by omega
theorem om_31 {x0 : Int} (h0 : x0 ≤ 12) : x0 + 1 ≤ 2147483647 := by omega
theorem om_32 {x0 : Int} {x1 : Int} (h0 : x0 ≤ 12) (h1 : x1 < x0) : x1 < ((12 : Nat) : Int) := by omega
theorem om_33 {x0 : Int} {x1 : Int} (h0 : x0 ≤ 12) (h1 : x1 < x0) : x1 + 1 ≤ 2147483647 := by omega
theorem om_34 {x0 : Int} {x1 : Int} (h0 : 0 ≤ x0) (h1 : x1 = x0 + 1) : 0 ≤ x1 := by omega
theorem om_35  : (0 : Int) ≤ 0 := by omega
theorem om_36 {x0 : Int} {x1 : Int} {x2 : Int} {x3 : Int} (h0 : x0 = x1) (h1 : x2 = x3) (h2 : x2 < x0) : x3 < x1 := by omega
theorem om_37 {x0 : Int} {x1 : Int} {x2 : Int} {x3 : Int} {x4 : Int} {x5 : Int} (h0 : x0 = x1) (h1 : x2 = x3) (h2 : x0 ≤ x2) (h3 : x4 = x1) (h4 : x5 = x3) (h5 : x4 = x5) : x1 = x3 := by omega
theorem om_38 {x0 : Int} {x1 : Int} {x2 : Int} {x3 : Int} (h0 : x0 = x1) (h1 : x2 = x3) (h2 : x2 ≤ x0) : x3 ≤ x1 := by omega
theorem om_39 {x0 : Int} {x1 : Int} {x2 : Int} {x3 : Int} (h0 : x0 = x1) (h1 : x2 = x3) (h2 : x0 < x2) : x1 < x3 := by omega
theorem om_40 {x0 : Int} (h0 : 1 ≤ x0) : - 2147483648 ≤ x0 + 1 := by omega
theorem om_41 {x0 : Int} {x1 : Int} (h0 : 1 ≤ x0) (h1 : x1 = x0 + 1) : 1 ≤ x1 := by omega
theorem om_42 {x0 : Int} (h0 : 0 < x0) : - 2147483648 ≤ x0 - 1 := by omega
theorem om_43 {x0 : Int} {x1 : Int} {x2 : Int} (h0 : x0 ≤ 12) (h1 : x1 < x0) (h2 : x2 ≤ x1) : x2 - 1 ≤ 2147483647 := by omega
theorem om_44 {x0 : Int} {x1 : Int} {x2 : Int} (h0 : x0 ≤ 12) (h1 : x1 < x0) (h2 : x2 ≤ x1) : x2 < 12 := by omega
theorem om_45 {x0 : Int} {x1 : Int} (h0 : 0 < x0) (h1 : x1 = x0 - 1) : 0 ≤ x1 := by omega
theorem om_46 {x0 : Int} {x1 : Int} {x2 : Int} {x3 : Int} (h0 : x0 ≤ 12) (h1 : x1 < x0) (h2 : x2 ≤ x1) (h3 : x3 = x2 - 1) : x3 < 12 := by omega
theorem om_47 {x0 : Int} (h0 : 0 < x0) : - 2147483648 ≤ x0 + ( - 1 ) := by omega
theorem om_48 {x0 : Int} {x1 : Int} {x2 : Int} (h0 : x0 ≤ 12) (h1 : x1 < x0) (h2 : x2 ≤ x1) : x2 + ( - 1 ) ≤ 2147483647 := by omega
theorem om_49 {x0 : Int} {x1 : Int} (h0 : 0 < x0) (h1 : x1 = x0 + ( - 1 )) : 0 ≤ x1 := by omega
theorem om_50 {x0 : Int} (h0 : 0 < x0) : 0 < x0 := by omega
theorem om_51 {x0 : Int} (h0 : 1 ≤ x0) : 0 ≤ x0 := by omega
theorem om_52  : (1 : Int) ≤ 1 := by omega
theorem om_53 {x0 : Int} {x1 : Int} (h0 : x0 ≤ 12) (h1 : x1 ≤ x0) : x1 + 1 ≤ 2147483647 := by omega
theorem om_54 {x0 : Int} {x1 : Int} {x2 : Int} (h0 : x0 < x1) (h1 : x2 = x0 + 1) : x2 ≤ x1 := by omega
theorem om_55 {x0 : Int} {x1 : Int} {x2 : Int} (h0 : x0 ≤ 12) (h1 : x1 ≤ x2) (h2 : x2 ≤ x0) : x1 + 1 ≤ 2147483647 := by omega
theorem om_56 {x0 : Int} {x1 : Int} {x2 : Int} {x3 : Int} (h0 : x0 ≤ x1) (h1 : x2 = x0 + 1) (h2 : x3 = x1 + 1) : x2 ≤ x3 := by omega
theorem om_57 {x0 : Int} {x1 : Int} {x2 : Int} (h0 : x0 ≤ 12) (h1 : x1 ≤ x2) (h2 : x2 ≤ x0) : x1 ≤ 12 := by omega
theorem om_58 {x0 : Int} {x1 : Int} (h0 : x0 ≤ 12) (h1 : x1 < x0) : x1 < 12 := by omega
theorem om_59 {x0 : Int} {x1 : Int} {x2 : Int} (h0 : x0 ≤ 12) (h1 : x1 ≤ x2) (h2 : x2 < x0) : x1 < 12 := by omega
theorem om_60 {x0 : Int} (h0 : x0 ≤ 12) : x0 ≤ 12 := by omega
theorem om_61 {x0 : Int} (h0 : x0 < 319) : x0 < ((319 : Nat) : Int) := by omega
theorem om_62 {x0 : Int} {x1 : Int} {x2 : Int} {x3 : Int} (h0 : 0 ≤ x0) (h1 : x0 < x1) (h2 : x2 = x0) (h3 : x3 = x1) : - 2147483648 ≤ x2 + x3 := by omega
theorem om_63 {x0 : Int} {x1 : Int} {x2 : Int} {x3 : Int} (h0 : x0 < x1) (h1 : x1 ≤ 160) (h2 : x2 = x0) (h3 : x3 = x1) : x2 + x3 ≤ 2147483647 := by omega
theorem om_64 {x0 : Int} {x1 : Int} {x2 : Int} {x3 : Int} {x4 : Int} (h0 : 0 ≤ x0) (h1 : x0 < x1) (h2 : x2 = x0) (h3 : x3 = x1) (h4 : x4 = x2 + x3) : 0 ≤ x4 := by omega
theorem om_65 {x0 : Int} {x1 : Int} {x2 : Int} {x3 : Int} {x4 : Int} {x5 : Int} {x6 : Int} (h0 : x0 < x1) (h1 : x2 = x0) (h2 : x3 = x1) (h3 : x4 = x2 + x3) (h4 : x4 ≤ 2 * x5 + 1) (h5 : x6 = x0) : - 2147483648 ≤ x5 - x6 := by omega
theorem om_66 {x0 : Int} {x1 : Int} {x2 : Int} {x3 : Int} {x4 : Int} {x5 : Int} {x6 : Int} (h0 : 0 ≤ x0) (h1 : x1 ≤ 160) (h2 : x2 = x0) (h3 : x3 = x1) (h4 : x4 = x2 + x3) (h5 : 2 * x5 ≤ x4) (h6 : x6 = x0) : x5 - x6 ≤ 2147483647 := by omega
theorem om_67 {x0 : Int} {x1 : Int} {x2 : Int} {x3 : Int} {x4 : Int} {x5 : Int} {x6 : Int} {x7 : Int} (h0 : x0 < x1) (h1 : x2 = x0) (h2 : x3 = x1) (h3 : x4 = x2 + x3) (h4 : x4 ≤ 2 * x5 + 1) (h5 : x6 = x0) (h6 : x7 = x5 - x6) : - 2147483648 ≤ 2 * x7 := by omega
theorem om_68 {x0 : Int} {x1 : Int} {x2 : Int} {x3 : Int} {x4 : Int} {x5 : Int} {x6 : Int} {x7 : Int} (h0 : 0 ≤ x0) (h1 : x1 ≤ 160) (h2 : x2 = x0) (h3 : x3 = x1) (h4 : x4 = x2 + x3) (h5 : 2 * x5 ≤ x4) (h6 : x6 = x0) (h7 : x7 = x5 - x6) : 2 * x7 ≤ 2147483647 := by omega
theorem om_69 {x0 : Int} {x1 : Int} {x2 : Int} {x3 : Int} (h0 : 0 ≤ x0) (h1 : x0 + 2 ≤ x1) (h2 : x2 = x0) (h3 : x3 = x1) : - 2147483648 ≤ x2 + x3 := by omega
theorem om_70 {x0 : Int} {x1 : Int} {x2 : Int} {x3 : Int} (h0 : x0 + 2 ≤ x1) (h1 : x1 ≤ 160) (h2 : x2 = x0) (h3 : x3 = x1) : x2 + x3 ≤ 2147483647 := by omega
theorem om_71 {x0 : Int} {x1 : Int} {x2 : Int} {x3 : Int} {x4 : Int} (h0 : 0 ≤ x0) (h1 : x0 + 2 ≤ x1) (h2 : x2 = x0) (h3 : x3 = x1) (h4 : x4 = x2 + x3) : 0 ≤ x4 := by omega
theorem om_72 {x0 : Int} {x1 : Int} (h0 : x0 + 2 ≤ x1) : x0 < x1 := by omega
theorem om_73 {x0 : Int} (h0 : x0 < 319) : x0 + 1 ≤ 2147483647 := by omega
theorem om_74 {x0 : Int} {x1 : Int} {x2 : Int} {x3 : Int} (h0 : x0 < 319) (h1 : x1 + 2 ≤ x2) (h2 : x0 + 2 * ( x2 - x1 ) - 1 ≤ 319) (h3 : x3 = x0 + 1) : x3 < ((319 : Nat) : Int) := by omega
theorem om_75 {x0 : Int} (h0 : 0 ≤ x0) : - 2147483648 ≤ 2 * x0 := by omega
theorem om_76 {x0 : Int} (h0 : x0 ≤ 160) : 2 * x0 ≤ 2147483647 := by omega
theorem om_77 {x0 : Int} {x1 : Int} (h0 : 0 ≤ x0) (h1 : x1 = 2 * x0) : - 2147483648 ≤ x1 - 1 := by omega
theorem om_78 {x0 : Int} {x1 : Int} (h0 : x0 ≤ 160) (h1 : x1 = 2 * x0) : x1 - 1 ≤ 2147483647 := by omega
theorem om_79 {x0 : Int} {x1 : Int} {x2 : Int} {x3 : Int} (h0 : x0 ≤ 160) (h1 : x1 = 2 * x0) (h2 : x2 = x1 - 1) (h3 : x3 < x2) : x3 < ((319 : Nat) : Int) := by omega
theorem om_80 {x0 : Int} {x1 : Int} {x2 : Int} {x3 : Int} (h0 : x0 ≤ 160) (h1 : x1 = 2 * x0) (h2 : x2 = x1 - 1) (h3 : x3 < x2) : x3 + 1 ≤ 2147483647 := by omega
theorem om_81 {x0 : Int} {x1 : Int} {x2 : Int} {x3 : Int} (h0 : x0 ≤ 160) (h1 : x1 = 2 * x0) (h2 : x2 = x1 - 1) (h3 : x3 < x2) : x3 < 319 := by omega
theorem om_82 {x0 : Int} {x1 : Int} {x2 : Int} {x3 : Int} {x4 : Int} (h0 : x0 = x1) (h1 : x2 = x3) (h2 : x4 = x0 - x2) (h3 : 1 < x4) : x3 + 2 ≤ x1 := by omega
theorem om_83 {x0 : Int} {x1 : Int} (h0 : x0 < 160) (h1 : x1 < x0) : x1 < ((160 : Nat) : Int) := by omega
theorem om_84 {x0 : Int} {x1 : Int} (h0 : x0 < 160) (h1 : x1 < x0) : x1 + 1 ≤ 2147483647 := by omega
theorem om_85 {x0 : Int} {x1 : Int} (h0 : x0 < x1) (h1 : x1 ≤ 160) : x0 < ((160 : Nat) : Int) := by omega
theorem om_86 {x0 : Int} {x1 : Int} (h0 : x0 < x1) (h1 : 0 ≤ x0) : - 2147483648 ≤ x1 - 1 := by omega
theorem om_87 {x0 : Int} (h0 : x0 ≤ 160) : x0 - 1 ≤ 2147483647 := by omega
theorem om_88 {x0 : Int} {x1 : Int} (h0 : x0 ≤ 160) (h1 : x1 ≤ x0 - 1) : x1 + 1 ≤ 2147483647 := by omega
theorem om_89 {x0 : Int} {x1 : Int} {x2 : Int} (h0 : 0 ≤ x0) (h1 : x0 ≤ x1) (h2 : x2 = x1 + 1) : 0 ≤ x2 := by omega
theorem om_90 {x0 : Int} {x1 : Int} {x2 : Int} {x3 : Int} (h0 : x0 ≤ 160) (h1 : x1 = x0 - 1) (h2 : x2 < x1) (h3 : x3 = x2 + 1) : x3 < ((160 : Nat) : Int) := by omega
theorem om_91 {x0 : Int} {x1 : Int} (h0 : x0 ≤ 160) (h1 : x1 ≤ x0 - 1) : x1 < ((160 : Nat) : Int) := by omega
theorem om_92 {x0 : Int} {x1 : Int} {x2 : Int} {x3 : Int} (h0 : x0 = x1 - 1) (h1 : x2 < x0) (h2 : x3 = x2 + 1) : x3 ≤ x1 - 1 := by omega
theorem om_93 {x0 : Int} {x1 : Int} (h0 : x0 ≤ x1 - 1) : 0 < x1 - x0 := by omega
theorem om_94 {x0 : Int} {x1 : Int} (h0 : x0 < x1) : x0 ≤ x1 - 1 := by omega
theorem om_95 {x0 : Int} (h0 : 0 ≤ x0) : - 2147483648 ≤ x0 * 6 := by omega
theorem om_96 {x0 : Int} (h0 : x0 < 319) : x0 * 6 ≤ 2147483647 := by omega
theorem om_97 {x0 : Int} {x1 : Int} {x2 : Int} (h0 : 0 ≤ x0) (h1 : x1 = x0 * 6) (h2 : 0 ≤ x2) : - 2147483648 ≤ x1 + x2 := by omega
theorem om_98 {x0 : Int} {x1 : Int} {x2 : Int} {x3 : Int} {x4 : Int} (h0 : x0 < 319) (h1 : x1 = x0 * 6) (h2 : x2 = x3) (h3 : x3 ≤ 6) (h4 : x4 < x2) : x1 + x4 ≤ 2147483647 := by omega
theorem om_99 {x0 : Int} {x1 : Int} {x2 : Int} {x3 : Int} (h0 : 0 ≤ x0) (h1 : x1 = x0 * 6) (h2 : 0 ≤ x2) (h3 : x3 = x1 + x2) : 0 ≤ x3 := by omega
theorem om_100 {x0 : Int} {x1 : Int} {x2 : Int} {x3 : Int} {x4 : Int} {x5 : Int} (h0 : x0 < 319) (h1 : x1 = x0 * 6) (h2 : x2 = x3) (h3 : x3 ≤ 6) (h4 : x4 < x2) (h5 : x5 = x1 + x4) : x5 < ((1914 : Nat) : Int) := by omega
theorem om_101 {x0 : Int} {x1 : Int} {x2 : Int} (h0 : x0 = x1) (h1 : x1 ≤ 6) (h2 : x2 < x0) : x2 + 1 ≤ 2147483647 := by omega
theorem om_102 {x0 : Int} {x1 : Int} (h0 : x0 = x1 + 1) : ( 6 - x0 ) + 1 ≤ 6 - x1 := by omega
theorem om_103 {x0 : Int} {x1 : Int} {x2 : Int} (h0 : x0 = x1) (h1 : x1 ≤ 6) (h2 : x2 < x0) : 0 < 6 - x2 := by omega
theorem om_104  : (0 : Int) ≤ 12 := by omega
theorem om_105 {x0 : Int} {x1 : Int} {x2 : Int} (h0 : x0 < 319) (h1 : x1 = x0 * 6) (h2 : x2 < 6) : x1 + x2 ≤ 2147483647 := by omega
theorem om_106 {x0 : Int} {x1 : Int} {x2 : Int} {x3 : Int} (h0 : x0 < 319) (h1 : x1 = x0 * 6) (h2 : x2 < 6) (h3 : x3 = x1 + x2) : x3 < ((1914 : Nat) : Int) := by omega
theorem om_107 {x0 : Int} (h0 : x0 < 6) : x0 < ((12 : Nat) : Int) := by omega
theorem om_108 {x0 : Int} (h0 : x0 < 6) : x0 + 1 ≤ 2147483647 := by omega
theorem om_109 {x0 : Int} (h0 : x0 < 6) : 0 < 6 - x0 := by omega
theorem om_110 {x0 : Int} {x1 : Int} (h0 : x0 < x1) (h1 : x1 ≤ 319) : x0 < ((319 : Nat) : Int) := by omega
theorem om_111 {x0 : Int} {x1 : Int} (h0 : x0 < x1) (h1 : x1 ≤ 319) : x0 + 1 ≤ 2147483647 := by omega
theorem om_112 {x0 : Int} {x1 : Int} (h0 : x0 < x1) (h1 : x1 ≤ 319) : x0 < 319 := by omega
theorem om_113 {x0 : Int} (h0 : 0 ≤ x0) : - 2147483648 ≤ x0 - 1 := by omega
theorem om_114 {x0 : Int} (h0 : x0 ≤ 319) : x0 - 1 ≤ 2147483647 := by omega
theorem om_115 {x0 : Int} {x1 : Int} (h0 : x0 ≤ 319) (h1 : x1 < x0) : x1 < ((319 : Nat) : Int) := by omega
theorem om_116 {x0 : Int} (h0 : 0 ≤ x0) : - 2147483648 ≤ x0 + ( - 1 ) := by omega
theorem om_117 {x0 : Int} {x1 : Int} (h0 : x0 ≤ 319) (h1 : x1 < x0) : x1 + ( - 1 ) ≤ 2147483647 := by omega
theorem om_118 {x0 : Int} {x1 : Int} {x2 : Int} (h0 : x0 < x1) (h1 : x2 = x0 + ( - 1 )) : x2 < x1 := by omega
theorem om_119 {x0 : Int} {x1 : Int} (h0 : 0 ≤ x0) (h1 : x1 = x0 + ( - 1 )) : - 1 ≤ x1 := by omega
theorem om_120 {x0 : Int} {x1 : Int} (h0 : x0 = x1 + ( - 1 )) : ( x0 + 1 ) + 1 ≤ x1 + 1 := by omega
theorem om_121 {x0 : Int} (h0 : 0 ≤ x0) : 0 < x0 + 1 := by omega
theorem om_122 {x0 : Int} {x1 : Int} (h0 : x0 ≤ 319) (h1 : x1 < x0) : x1 < 319 := by omega
theorem om_123 {x0 : Int} {x1 : Int} (h0 : x0 = x1 - 1) : x0 < x1 := by omega
theorem om_124 {x0 : Int} {x1 : Int} (h0 : 0 ≤ x0) (h1 : x1 = x0 - 1) : - 1 ≤ x1 := by omega
theorem om_125 {x0 : Int} {x1 : Int} (h0 : x0 ≤ 319) (h1 : x1 < x0) : x1 + 1 ≤ 2147483647 := by omega
theorem om_126 {x0 : Int} {x1 : Int} {x2 : Int} (h0 : x0 = x1) (h1 : x2 < x0) : x2 < x1 := by omega
theorem om_127 {x0 : Int} {x1 : Int} {x2 : Int} (h0 : x0 = x1) (h1 : x0 = x2) : x1 = x2 := by omega
theorem om_128 {x0 : Int} {x1 : Int} {x2 : Int} (h0 : x0 = x1) (h1 : x0 ≤ x2) : x1 ≤ x2 := by omega
theorem om_129 {x0 : Int} {x1 : Int} (h0 : x0 ≤ 12) (h1 : x1 ≤ x0) : x1 ≤ 12 := by omega
theorem om_130 {x0 : Int} (h0 : 1 < x0) : 0 ≤ x0 := by omega
theorem om_131 {x0 : Int} {x1 : Int} (h0 : 1 < x0) (h1 : 2 * x1 ≤ x0) : - 2147483648 ≤ x0 - x1 := by omega
theorem om_132 {x0 : Int} {x1 : Int} (h0 : x0 ≤ 160) (h1 : x0 ≤ 2 * x1 + 1) : x0 - x1 ≤ 2147483647 := by omega
theorem om_133 {x0 : Int} {x1 : Int} {x2 : Int} (h0 : 1 < x0) (h1 : 2 * x1 ≤ x0) (h2 : x2 = x0 - x1) : 0 ≤ x2 := by omega
theorem om_134 {x0 : Int} {x1 : Int} {x2 : Int} (h0 : x0 ≤ 160) (h1 : x0 ≤ 2 * x1 + 1) (h2 : x2 = x0 - x1) : x2 ≤ 160 := by omega
theorem om_136 {x0 : Int} (h0 : x0 ≤ 160) : x0 ≤ 160 := by omega
theorem om_137 {x0 : Int} {x1 : Int} (h0 : x0 = x1 + 1) : ( 160 - x0 ) + 1 ≤ 160 - x1 := by omega
theorem om_138 {x0 : Int} (h0 : x0 < 160) : 0 < 160 - x0 := by omega
theorem om_139 {x0 : Int} (h0 : x0 < 161) : x0 < ((161 : Nat) : Int) := by omega
theorem om_140 {x0 : Int} (h0 : x0 < 161) : x0 + 1 ≤ 2147483647 := by omega
theorem om_141 {x0 : Int} {x1 : Int} (h0 : x0 = x1 + 1) : ( 161 - x0 ) + 1 ≤ 161 - x1 := by omega
theorem om_142 {x0 : Int} (h0 : x0 < 161) : 0 < 161 - x0 := by omega
theorem om_143 {x0 : Int} {x1 : Int} (h0 : x0 ≤ 160) (h1 : x1 < x0) : x1 < 160 := by omega
theorem om_144 {x0 : Int} {x1 : Int} (h0 : x0 = x1) (h1 : 0 ≤ x1) : 0 ≤ x0 := by omega
theorem om_145 {x0 : Int} (h0 : x0 < ( - 32768 )) : x0 < - 32768 := by omega
theorem om_146 {x0 : Int} (h0 : 32767 < x0) : 32767 < x0 := by omega
theorem om_147 {x0 : Int} (h0 : ( - 32768 ) ≤ x0) : - 32768 ≤ x0 := by omega
theorem om_148 {x0 : Int} (h0 : x0 ≤ 32767) : x0 ≤ 32767 := by omega
theorem om_149 {x0 : Int} (h0 : x0 < 1) : x0 < 1 := by omega
theorem om_150 {x0 : Int} (h0 : 999 < x0) : 999 < x0 := by omega
theorem om_151 {x0 : Int} (h0 : 1 ≤ x0) : 1 ≤ x0 := by omega
theorem om_152 {x0 : Int} (h0 : x0 ≤ 999) : x0 ≤ 999 := by omega
theorem om_153 {x0 : Int} (h0 : 0 ≤ x0) : - 2147483648 ≤ x0 + 4 := by omega
theorem om_154 {x0 : Int} (h0 : x0 ≤ 160) : x0 + 4 ≤ 2147483647 := by omega
theorem om_155 {x0 : Int} {x1 : Int} (h0 : x0 ≤ 160) (h1 : x1 = x0 + 4) (h2 : x1 ≤ 160) : x0 < 160 := by omega
theorem om_156 {x0 : Int} {x1 : Int} {x2 : Int} (h0 : x0 ≤ 160) (h1 : x1 = x0 + 4) (h2 : x1 ≤ 160) (h3 : x2 = x0 + 1) : x2 < 160 := by omega
theorem om_157 {x0 : Int} {x1 : Int} {x2 : Int} (h0 : 0 ≤ x0) (h1 : x1 = x0 + 1) (h2 : x2 = x1 + 1) : 0 ≤ x2 := by omega
theorem om_158 {x0 : Int} {x1 : Int} {x2 : Int} {x3 : Int} (h0 : x0 ≤ 160) (h1 : x1 = x0 + 4) (h2 : x1 ≤ 160) (h3 : x2 = x0 + 1) (h4 : x3 = x2 + 1) : x3 < 160 := by omega
theorem om_159 {x0 : Int} {x1 : Int} {x2 : Int} {x3 : Int} (h0 : 0 ≤ x0) (h1 : x1 = x0 + 1) (h2 : x2 = x1 + 1) (h3 : x3 = x2 + 1) : 0 ≤ x3 := by omega
theorem om_160 {x0 : Int} {x1 : Int} {x2 : Int} {x3 : Int} {x4 : Int} (h0 : x0 = x1 + 4) (h1 : x0 ≤ 160) (h2 : x2 = x1 + 1) (h3 : x3 = x2 + 1) (h4 : x4 = x3 + 1) : x4 < 160 := by omega
theorem om_161 {x0 : Int} (h0 : x0 = 0) : ¬ x0 < 0 := by omega
theorem om_162 {x0 : Int} (h0 : x0 = 0) : ¬ 2 < x0 := by omega
theorem om_163 {x0 : Int} (h0 : x0 = 1) : ¬ x0 < 0 := by omega
theorem om_164 {x0 : Int} (h0 : x0 = 1) : ¬ 2 < x0 := by omega
theorem om_165 {x0 : Int} (h0 : x0 = 2) : ¬ x0 < 0 := by omega
theorem om_166 {x0 : Int} (h0 : x0 = 2) : ¬ 2 < x0 := by omega
theorem om_167 {x0 : Int} {x1 : Int} (h0 : x0 ≤ 160) (h1 : x1 ≤ x0) : x1 ≤ 160 := by omega
theorem om_168 {x0 : Int} {x1 : Int} (h0 : x0 < x1) : - 2147483648 ≤ x1 - x0 := by omega
theorem om_169 {x0 : Int} {x1 : Int} {x2 : Int} (h0 : x0 ≤ 160) (h1 : 0 ≤ x1) (h2 : x2 ≤ x0) : x2 - x1 ≤ 2147483647 := by omega
theorem om_170 {x0 : Int} {x1 : Int} {x2 : Int} (h0 : x0 ≤ 160) (h1 : x1 < x2) (h2 : x2 ≤ x0) : x1 + 1 ≤ 2147483647 := by omega
theorem om_171 {x0 : Int} {x1 : Int} {x2 : Int} (h0 : x0 ≤ 160) (h1 : x1 ≤ x0) (h2 : x2 < x1) : x2 ≤ 160 := by omega
theorem om_172 {x0 : Int} {x1 : Int} {x2 : Int} (h0 : x0 ≤ 160) (h1 : x1 ≤ x0) (h2 : x2 < x1) : x2 + 1 ≤ 2147483647 := by omega
theorem om_173 {x0 : Int} {x1 : Int} (h0 : x0 = x1 + 1) : x1 ≤ x0 := by omega
theorem om_174 {x0 : Int} {x1 : Int} {x2 : Int} (h0 : x0 ≤ 160) (h1 : x1 < x2) (h2 : x2 ≤ x0) : x1 < ((161 : Nat) : Int) := by omega
theorem om_175 {x0 : Int} {x1 : Int} (h0 : x0 ≤ 160) (h1 : x1 ≤ x0) : x1 < ((161 : Nat) : Int) := by omega
theorem om_176 {x0 : Int} {x1 : Int} {x2 : Int} (h0 : 0 ≤ x0) (h1 : x0 ≤ x1) (h2 : x1 ≤ x2) : 0 ≤ x2 := by omega
theorem om_177 {x0 : Int} {x1 : Int} {x2 : Int} (h0 : x0 ≤ x1) (h1 : x2 < x0) : x2 < x1 := by omega
theorem om_178 {x0 : Int} {x1 : Int} {x2 : Int} (h0 : 0 ≤ x0) (h1 : x0 ≤ x1) (h2 : x1 ≤ x2) : - 2147483648 ≤ x2 + 1 := by omega
theorem om_179 {x0 : Int} {x1 : Int} {x2 : Int} {x3 : Int} (h0 : 0 ≤ x0) (h1 : x0 ≤ x1) (h2 : x1 ≤ x2) (h3 : x3 = x2 + 1) : 0 ≤ x3 := by omega
theorem om_180 {x0 : Int} {x1 : Int} {x2 : Int} {x3 : Int} (h0 : x0 ≤ 160) (h1 : x1 ≤ x0) (h2 : x2 < x1) (h3 : x3 = x2 + 1) : x3 < ((161 : Nat) : Int) := by omega
theorem om_181 {x0 : Int} {x1 : Int} {x2 : Int} (h0 : x0 ≤ 160) (h1 : x1 ≤ x0) (h2 : x2 < x1) : x2 < ((161 : Nat) : Int) := by omega
theorem om_182 {x0 : Int} (h0 : 1 ≤ x0) : - 2147483648 ≤ x0 - 1 := by omega
theorem om_183 {x0 : Int} {x1 : Int} (h0 : x0 ≤ 160) (h1 : x1 ≤ x0) : x1 - 1 ≤ 2147483647 := by omega
theorem om_184 {x0 : Int} {x1 : Int} (h0 : x0 ≤ x1) : - 2147483648 ≤ x1 - x0 := by omega
theorem om_185 {x0 : Int} {x1 : Int} {x2 : Int} (h0 : x0 ≤ 160) (h1 : 1 ≤ x1) (h2 : x2 < x0) : x2 - x1 ≤ 2147483647 := by omega
theorem om_186 {x0 : Int} {x1 : Int} {x2 : Int} (h0 : x0 ≤ x1) (h1 : x2 = x1 - x0) : 0 ≤ x2 := by omega
theorem om_187 {x0 : Int} {x1 : Int} {x2 : Int} {x3 : Int} (h0 : 1 ≤ x0) (h1 : x1 < x2) (h2 : x3 = x1 - x0) : x3 < x2 := by omega
theorem om_188 {x0 : Int} {x1 : Int} {x2 : Int} (h0 : x0 ≤ 160) (h1 : x1 < x0) (h2 : x2 = x1 + 1) : x2 ≤ 160 := by omega
theorem om_192 {x0 : Int} (h0 : x0 ≤ 160) : x0 + 1 ≤ 2147483647 := by omega
theorem om_193 {x0 : Int} (h0 : - 1 ≤ x0) : - 2147483648 ≤ x0 + ( - 1 ) := by omega
theorem om_198 {x0 : Int} {x1 : Int} {x2 : Int} {x3 : Int} (h0 : x0 = x1 + 1) (h1 : x2 = x3 + ( - 1 )) : ( x2 - x0 ) + 1 ≤ x3 - x1 := by omega
theorem om_200 {x0 : Int} {x1 : Int} {x2 : Int} (h0 : 0 ≤ x0) (h1 : x0 < x1) (h2 : x2 = x1 - 1) : - 1 ≤ x2 := by omega
theorem om_202 {x0 : Int} {x1 : Int} (h0 : x0 ≤ 160) (h1 : x1 < x0) : x1 ≤ 160 := by omega
theorem om_203 {x0 : Int} (h0 : x0 ≤ 6) : x0 + 1 ≤ 2147483647 := by omega
theorem om_204 {x0 : Int} {x1 : Int} (h0 : x0 = x1 + 1) : ( 7 - x0 ) + 1 ≤ 7 - x1 := by omega
theorem om_205 {x0 : Int} (h0 : x0 ≤ 6) : 0 < 7 - x0 := by omega
theorem om_206 {x0 : Int} {x1 : Int} {x2 : Int} (h0 : x0 ≤ 12) (h1 : x1 ≤ x0) (h2 : x2 < x1) : x2 < ((12 : Nat) : Int) := by omega
theorem om_207 {x0 : Int} {x1 : Int} {x2 : Int} (h0 : x0 ≤ 12) (h1 : x1 ≤ x0) (h2 : x2 < x1) : x2 + 1 ≤ 2147483647 := by omega
theorem om_208  : (0 : Int) < 319 := by omega
theorem om_209 {x0 : Int} {x1 : Int} {x2 : Int} (h0 : x0 ≤ 160) (h1 : x1 ≤ x0) (h2 : x2 < x1) : x2 < 160 := by omega
theorem om_210 {x0 : Int} (h0 : x0 = 0) : ¬ 6 < x0 := by omega
theorem om_211 {x0 : Int} (h0 : x0 = 1) : ¬ 6 < x0 := by omega
theorem om_212 {x0 : Int} (h0 : x0 = 2) : ¬ 6 < x0 := by omega
theorem om_213 {x0 : Int} (h0 : x0 = 3) : ¬ x0 < 0 := by omega
theorem om_214 {x0 : Int} (h0 : x0 = 3) : ¬ 6 < x0 := by omega
theorem om_215 {x0 : Int} (h0 : x0 = 4) : ¬ x0 < 0 := by omega
theorem om_216 {x0 : Int} (h0 : x0 = 4) : ¬ 6 < x0 := by omega
theorem om_217 {x0 : Int} (h0 : x0 = 5) : ¬ x0 < 0 := by omega
theorem om_218 {x0 : Int} (h0 : x0 = 5) : ¬ 6 < x0 := by omega
theorem om_219 {x0 : Int} (h0 : x0 = 6) : ¬ x0 < 0 := by omega
theorem om_220 {x0 : Int} (h0 : x0 = 6) : ¬ 6 < x0 := by omega
theorem om_221 {x0 : Int} {x1 : Int} {x2 : Int} (h0 : x0 = x1 - 1) (h1 : x2 ≤ x0) : x2 < x1 := by omega
theorem om_222 {x0 : Int} {x1 : Int} (h0 : x0 ≤ 160) (h1 : x1 = x0 + 4) (h2 : x1 ≤ 160) : x0 < ((160 : Nat) : Int) := by omega
theorem om_223 {x0 : Int} {x1 : Int} {x2 : Int} (h0 : x0 ≤ 160) (h1 : x1 = x0 + 4) (h2 : x1 ≤ 160) (h3 : x2 = x0 + 1) : x2 < ((160 : Nat) : Int) := by omega
theorem om_224 {x0 : Int} (h0 : 0 ≤ x0) : - 2147483648 ≤ x0 + 2 := by omega
theorem om_225 {x0 : Int} (h0 : x0 ≤ 160) : x0 + 2 ≤ 2147483647 := by omega
theorem om_226 {x0 : Int} {x1 : Int} (h0 : 0 ≤ x0) (h1 : x1 = x0 + 2) : 0 ≤ x1 := by omega
theorem om_227 {x0 : Int} {x1 : Int} {x2 : Int} (h0 : x0 ≤ 160) (h1 : x1 = x0 + 4) (h2 : x1 ≤ 160) (h3 : x2 = x0 + 2) : x2 < ((160 : Nat) : Int) := by omega
theorem om_228 {x0 : Int} (h0 : 0 ≤ x0) : - 2147483648 ≤ x0 + 3 := by omega
theorem om_229 {x0 : Int} (h0 : x0 ≤ 160) : x0 + 3 ≤ 2147483647 := by omega
theorem om_230 {x0 : Int} {x1 : Int} (h0 : 0 ≤ x0) (h1 : x1 = x0 + 3) : 0 ≤ x1 := by omega
theorem om_231 {x0 : Int} {x1 : Int} {x2 : Int} (h0 : x0 = x1 + 4) (h1 : x0 ≤ 160) (h2 : x2 = x1 + 3) : x2 < ((160 : Nat) : Int) := by omega
theorem om_232 {x0 : Int} {x1 : Int} {x2 : Int} (h0 : x0 ≤ 160) (h1 : x1 ≤ x0) (h2 : x2 = x1 - 1) : x2 < ((160 : Nat) : Int) := by omega
theorem om_233 {x0 : Int} {x1 : Int} (h0 : x0 ≤ 160) (h1 : x1 ≤ x0) : x1 + ( - 1 ) ≤ 2147483647 := by omega
theorem om_234 {x0 : Int} {x1 : Int} {x2 : Int} (h0 : x0 ≤ 160) (h1 : x1 = x0 - 1) (h2 : x2 ≤ x1) : x2 + 1 ≤ 2147483647 := by omega
theorem om_235 {x0 : Int} {x1 : Int} {x2 : Int} (h0 : x0 ≤ 160) (h1 : x1 = x0 - 1) (h2 : x2 ≤ x1) : x2 < ((160 : Nat) : Int) := by omega
theorem om_236 {x0 : Int} {x1 : Int} {x2 : Int} (h0 : x0 < x1) (h1 : x2 = x1 - 1) : x0 ≤ x2 := by omega
theorem om_237 {x0 : Int} {x1 : Int} (h0 : 1 ≤ x0) (h1 : x1 = x0 - 1) : 0 ≤ x1 := by omega
theorem om_238 {x0 : Int} {x1 : Int} (h0 : x0 ≤ 160) (h1 : x1 ≤ x0) : x1 + 1 ≤ 2147483647 := by omega
theorem om_239 {x0 : Int} {x1 : Int} {x2 : Int} (h0 : x0 = x1 + 1) : ( x2 + 1 - x0 ) + 1 ≤ x2 + 1 - x1 := by omega
theorem om_240 {x0 : Int} {x1 : Int} (h0 : x0 ≤ x1) : 0 < x1 + 1 - x0 := by omega
theorem om_241 {x0 : Int} {x1 : Int} (h0 : 0 ≤ x0) (h1 : x1 = x0 + 1) : 1 ≤ x1 := by omega
theorem om_242 {x0 : Int} (h0 : x0 < 12) : x0 + 1 ≤ 2147483647 := by omega
theorem om_243 {x0 : Int} {x1 : Int} (h0 : x0 < 12) (h1 : x1 < x0) : x1 < ((12 : Nat) : Int) := by omega
theorem om_244 {x0 : Int} {x1 : Int} (h0 : x0 < 12) (h1 : x1 < x0) : x1 + 1 ≤ 2147483647 := by omega
theorem om_245 {x0 : Int} {x1 : Int} {x2 : Int} {x3 : Int} (h0 : x0 = x1) (h1 : x2 = x3) (h2 : x0 = x2) : x1 = x3 := by omega
theorem om_246 {x0 : Int} (h0 : x0 < 324) : x0 < ((324 : Nat) : Int) := by omega
theorem om_247 {x0 : Int} (h0 : 0 ≤ x0) : - 2147483648 ≤ 6 * x0 := by omega
theorem om_248 {x0 : Int} (h0 : x0 < 324) : 6 * x0 ≤ 2147483647 := by omega
theorem om_249 {x0 : Int} {x1 : Int} (h0 : 0 ≤ x0) (h1 : x1 = 6 * x0) : 0 ≤ x1 := by omega
theorem om_250 {x0 : Int} {x1 : Int} (h0 : x0 < 324) (h1 : x1 = 6 * x0) : x1 < ((1944 : Nat) : Int) := by omega
theorem om_251 {x0 : Int} {x1 : Int} {x2 : Int} (h0 : 0 ≤ x0) (h1 : 0 ≤ x1) (h2 : x2 = 6 * x0) : - 2147483648 ≤ x2 + x1 := by omega
theorem om_252 {x0 : Int} {x1 : Int} {x2 : Int} {x3 : Int} {x4 : Int} (h0 : x0 < 324) (h1 : x1 = x2) (h2 : x2 ≤ 6) (h3 : x3 < x1) (h4 : x4 = 6 * x0) : x4 + x3 ≤ 2147483647 := by omega
theorem om_253 {x0 : Int} {x1 : Int} {x2 : Int} {x3 : Int} (h0 : 0 ≤ x0) (h1 : 0 ≤ x1) (h2 : x2 = 6 * x0) (h3 : x3 = x2 + x1) : 0 ≤ x3 := by omega
theorem om_254 {x0 : Int} {x1 : Int} {x2 : Int} {x3 : Int} {x4 : Int} {x5 : Int} (h0 : x0 < 324) (h1 : x1 = x2) (h2 : x2 ≤ 6) (h3 : x3 < x1) (h4 : x4 = 6 * x0) (h5 : x5 = x4 + x3) : x5 < ((1944 : Nat) : Int) := by omega
theorem om_255 {x0 : Int} {x1 : Int} (h0 : x0 ≤ 320) (h1 : x1 < x0) : x1 < ((320 : Nat) : Int) := by omega
theorem om_256 {x0 : Int} {x1 : Int} (h0 : x0 ≤ 320) (h1 : x1 < x0) : x1 + 1 ≤ 2147483647 := by omega
theorem om_258 {x0 : Int} {x1 : Int} {x2 : Int} {x3 : Int} (h0 : x0 < 324) (h1 : x1 < 6) (h2 : x2 = 6 * x0) (h3 : x3 = x2 + x1) : x3 < ((1944 : Nat) : Int) := by omega
theorem om_259 {x0 : Int} {x1 : Int} {x2 : Int} (h0 : x0 ≤ 160) (h1 : x1 ≤ x2) (h2 : x2 < x0) : x1 + 1 ≤ 2147483647 := by omega
theorem om_260 {x0 : Int} {x1 : Int} {x2 : Int} (h0 : x0 ≤ 160) (h1 : x1 < x0) (h2 : x2 < x1) : x2 < ((160 : Nat) : Int) := by omega
theorem om_261 {x0 : Int} {x1 : Int} {x2 : Int} (h0 : x0 ≤ 160) (h1 : x1 < x0) (h2 : x2 < x1) : x2 + 1 ≤ 2147483647 := by omega
theorem om_262 {x0 : Int} {x1 : Int} (h0 : 0 ≤ x0) (h1 : x0 ≤ x1) : - 2147483648 ≤ x1 + ( - 1 ) := by omega
theorem om_263 {x0 : Int} {x1 : Int} {x2 : Int} (h0 : x0 ≤ 160) (h1 : x1 ≤ x0) (h2 : x2 < x1) : x2 + ( - 1 ) ≤ 2147483647 := by omega
theorem om_264 {x0 : Int} {x1 : Int} {x2 : Int} (h0 : x0 ≤ x1) (h1 : x2 = x1 + ( - 1 )) : x0 - 1 ≤ x2 := by omega
theorem om_265 {x0 : Int} {x1 : Int} (h0 : 0 ≤ x0) (h1 : x0 ≤ x1) : 0 < x1 + 1 := by omega
theorem om_266 {x0 : Int} {x1 : Int} {x2 : Int} (h0 : x0 ≤ x1) (h1 : x2 ≤ x0) : x2 ≤ x1 := by omega
theorem om_267 {x0 : Int} {x1 : Int} {x2 : Int} (h0 : x0 ≤ 160) (h1 : x1 ≤ x0) (h2 : x2 ≤ x1) : x2 + 1 ≤ 2147483647 := by omega
theorem om_268 {x0 : Int} {x1 : Int} {x2 : Int} (h0 : x0 ≤ 160) (h1 : x1 ≤ x0) (h2 : x2 ≤ x1) : x2 < ((161 : Nat) : Int) := by omega
theorem om_269 {x0 : Int} {x1 : Int} {x2 : Int} (h0 : 0 ≤ x0) (h1 : x0 ≤ x1) (h2 : x2 = x1 + 1) : 1 ≤ x2 := by omega
theorem om_270 {x0 : Int} {x1 : Int} {x2 : Int} (h0 : x0 < x1) (h1 : x2 = x1 - 1) : x0 - 1 ≤ x2 := by omega
theorem om_271 {x0 : Int} {x1 : Int} {x2 : Int} (h0 : x0 ≤ 160) (h1 : x1 ≤ x0) (h2 : x2 = x1 - 1) : x2 ≤ 160 := by omega
theorem om_272 {x0 : Int} {x1 : Int} (h0 : 1 ≤ x0) (h1 : 0 ≤ x1) : - 2147483648 ≤ x1 + x0 := by omega
theorem om_273 {x0 : Int} {x1 : Int} {x2 : Int} (h0 : x0 ≤ 160) (h1 : x1 ≤ x0) (h2 : x2 ≤ x0) : x2 + x1 ≤ 2147483647 := by omega
theorem om_274 {x0 : Int} {x1 : Int} {x2 : Int} {x3 : Int} (h0 : x0 ≤ 160) (h1 : x1 = x2 + x3) (h2 : x1 ≤ x0) : x2 + x3 ≤ 2147483647 := by omega
theorem om_275 {x0 : Int} {x1 : Int} {x2 : Int} (h0 : 1 ≤ x0) (h1 : 0 ≤ x1) (h2 : x2 = x1 + x0) : - 2147483648 ≤ x2 - 1 := by omega
theorem om_276 {x0 : Int} {x1 : Int} {x2 : Int} {x3 : Int} {x4 : Int} (h0 : x0 ≤ 160) (h1 : x1 = x2 + x3) (h2 : x1 ≤ x0) (h3 : x4 = x2 + x3) : x4 - 1 ≤ 2147483647 := by omega
theorem om_277 {x0 : Int} {x1 : Int} {x2 : Int} {x3 : Int} (h0 : 1 ≤ x0) (h1 : 0 ≤ x1) (h2 : x2 = x1 + x0) (h3 : x3 = x2 - 1) : 0 ≤ x3 := by omega
theorem om_278 {x0 : Int} {x1 : Int} {x2 : Int} {x3 : Int} {x4 : Int} {x5 : Int} (h0 : x0 ≤ 160) (h1 : x1 = x2 + x3) (h2 : x1 ≤ x0) (h3 : x4 = x2 + x3) (h4 : x5 = x4 - 1) : x5 < ((160 : Nat) : Int) := by omega
theorem om_279 {x0 : Int} {x1 : Int} {x2 : Int} {x3 : Int} (h0 : x0 ≤ 160) (h1 : 1 ≤ x1) (h2 : x2 = x3 + x1) (h3 : x2 ≤ x0) : x3 < ((160 : Nat) : Int) := by omega
theorem om_280 {x0 : Int} {x1 : Int} {x2 : Int} {x3 : Int} {x4 : Int} (h0 : 1 ≤ x0) (h1 : x1 = x2 + x0) (h2 : x1 ≤ x3) (h3 : x4 = x2 + 1) : x4 ≤ x3 := by omega
theorem om_281 {x0 : Int} {x1 : Int} {x2 : Int} {x3 : Int} (h0 : 1 ≤ x0) (h1 : x1 = x2 + x0) (h2 : x1 ≤ x3) : 0 < x3 - x2 := by omega
theorem om_282 {x0 : Int} {x1 : Int} {x2 : Int} {x3 : Int} {x4 : Int} {x5 : Int} (h0 : x0 ≤ 160) (h1 : x1 = x2 + x3) (h2 : x1 ≤ x0) (h3 : x4 = x2 + x3) (h4 : x5 < x4) : x5 < ((160 : Nat) : Int) := by omega
theorem om_283 {x0 : Int} {x1 : Int} {x2 : Int} {x3 : Int} {x4 : Int} (h0 : x0 ≤ 160) (h1 : x1 = x2 + x3) (h2 : x1 ≤ x0) (h3 : x4 = x2 + x3) : x4 ≤ 160 := by omega
theorem om_284 {x0 : Int} {x1 : Int} {x2 : Int} {x3 : Int} {x4 : Int} (h0 : x0 ≤ 160) (h1 : x1 = x2 + x3) (h2 : x1 ≤ x0) (h3 : x4 ≤ x2 + x3) : x4 + 1 ≤ 2147483647 := by omega
theorem om_285 {x0 : Int} {x1 : Int} {x2 : Int} {x3 : Int} {x4 : Int} (h0 : x0 = x1 + x2) (h1 : x3 < x0) (h2 : x4 = x3 + 1) : x4 ≤ x1 + x2 := by omega
theorem om_286 {x0 : Int} {x1 : Int} {x2 : Int} {x3 : Int} (h0 : x0 = x1 + 1) : ( x2 + x3 - x0 ) + 1 ≤ x2 + x3 - x1 := by omega
theorem om_287 {x0 : Int} {x1 : Int} {x2 : Int} {x3 : Int} (h0 : x0 = x1 + x2) (h1 : x3 < x0) : 0 < x1 + x2 - x3 := by omega
theorem om_288 {x0 : Int} {x1 : Int} (h0 : 1 ≤ x0) : x1 ≤ x1 + x0 := by omega
theorem om_289 {x0 : Int} {x1 : Int} {x2 : Int} {x3 : Int} {x4 : Int} {x5 : Int} {x6 : Int} (h0 : x0 ≤ 160) (h1 : 0 ≤ x1) (h2 : x2 ≤ x0) (h3 : x3 = x4 + x5) (h4 : x6 = x2 - x1) (h5 : x3 ≤ x6) : x4 + x5 ≤ 2147483647 := by omega
theorem om_290 {x0 : Int} {x1 : Int} {x2 : Int} {x3 : Int} (h0 : x0 ≤ 160) (h1 : 0 ≤ x1) (h2 : x2 ≤ x0) (h3 : x3 ≤ x2 - x1 + 1) : x3 + 1 ≤ 2147483647 := by omega
theorem om_292 {x0 : Int} {x1 : Int} (h0 : x0 < x1) : 0 ≤ x1 - x0 + 1 := by omega
theorem om_293 {x0 : Int} {x1 : Int} {x2 : Int} (h0 : x0 ≤ 12) (h1 : x1 < x0) (h2 : x2 = x1 + 1) : x2 ≤ 12 := by omega
theorem om_294 {x0 : Int} {x1 : Int} {x2 : Int} (h0 : x0 ≤ 12) (h1 : x1 ≤ 12) (h2 : x1 < x2) (h3 : x2 < x0) : x1 < 12 := by omega
theorem om_295 {x0 : Int} {x1 : Int} {x2 : Int} (h0 : x0 ≤ 12) (h1 : x1 ≤ 12) (h2 : x1 < x2) (h3 : x2 < x0) : x1 < ((12 : Nat) : Int) := by omega
theorem om_296 {x0 : Int} {x1 : Int} (h0 : 0 ≤ x0) (h1 : x0 < x1) : - 2147483648 ≤ x1 + 1 := by omega
theorem om_297 {x0 : Int} (h0 : x0 ≤ 13) : x0 + 1 ≤ 2147483647 := by omega
theorem om_298 {x0 : Int} {x1 : Int} {x2 : Int} (h0 : x0 < x1) (h1 : x2 = x1 + 1) : x0 < x2 := by omega
theorem om_299 {x0 : Int} {x1 : Int} {x2 : Int} (h0 : x0 ≤ 12) (h1 : x1 ≤ 13) (h2 : x1 < x0) (h3 : x2 = x1 + 1) : x2 ≤ 13 := by omega
theorem om_300 {x0 : Int} {x1 : Int} {x2 : Int} (h0 : 0 ≤ x0) (h1 : x0 < x1) (h2 : x2 = x1 + 1) : 0 ≤ x2 := by omega
theorem om_301 {x0 : Int} {x1 : Int} (h0 : x0 = x1 + 1) : x1 < x0 := by omega
theorem om_302 {x0 : Int} {x1 : Int} (h0 : x0 ≤ 12) (h1 : x1 = x0 + 1) : x1 ≤ 13 := by omega
theorem om_303 {x0 : Int} {x1 : Int} {x2 : Int} {x3 : Int} (h0 : x0 ≤ 6) (h1 : x1 ≤ 6) (h2 : x2 ≤ x1) (h3 : x3 ≤ x0 + x2) : x3 ≤ 12 := by omega
theorem om_304 {x0 : Int} (h0 : x0 ≤ 322) : x0 < ((324 : Nat) : Int) := by omega
theorem om_305 {x0 : Int} {x1 : Int} {x2 : Int} (h0 : x0 ≤ 6) (h1 : x1 ≤ x0) (h2 : x2 < x1) : x2 < ((12 : Nat) : Int) := by omega
theorem om_306 {x0 : Int} (h0 : x0 ≤ 322) : 6 * x0 ≤ 2147483647 := by omega
theorem om_307 {x0 : Int} {x1 : Int} {x2 : Int} {x3 : Int} (h0 : x0 = x1) (h1 : x2 = x0 - 0) (h2 : 0 < x2) (h3 : x3 = x1) : - 2147483648 ≤ x3 - 0 := by omega
theorem om_308 {x0 : Int} {x1 : Int} {x2 : Int} (h0 : x0 ≤ 6) (h1 : x1 ≤ x0) (h2 : x2 < x1) : x2 + 1 ≤ 2147483647 := by omega
theorem om_309 {x0 : Int} (h0 : x0 ≤ 6) : x0 < ((12 : Nat) : Int) := by omega
theorem om_310 {x0 : Int} {x1 : Int} {x2 : Int} {x3 : Int} {x4 : Int} (h0 : x0 ≤ 6) (h1 : x1 ≤ 6) (h2 : x2 ≤ x1) (h3 : x3 ≤ x0 + x2) (h4 : x4 < x3) : x4 < ((12 : Nat) : Int) := by omega
theorem om_311 {x0 : Int} {x1 : Int} {x2 : Int} {x3 : Int} {x4 : Int} (h0 : x0 = x1) (h1 : x2 = x0 - x3) (h2 : 0 < x2) (h3 : x4 = x1) : - 2147483648 ≤ x4 - x3 := by omega
theorem om_312 {x0 : Int} {x1 : Int} {x2 : Int} {x3 : Int} {x4 : Int} (h0 : x0 ≤ 6) (h1 : x1 ≤ 6) (h2 : x2 ≤ x1) (h3 : x3 ≤ x0 + x2) (h4 : x4 < x3) : x4 + 1 ≤ 2147483647 := by omega
theorem om_313 {x0 : Int} {x1 : Int} {x2 : Int} {x3 : Int} (h0 : x0 < 324) (h1 : x1 ≤ 6) (h2 : x2 ≤ x1) (h3 : x3 = 6 * x0) : x3 + x2 ≤ 2147483647 := by omega
theorem om_314 {x0 : Int} {x1 : Int} {x2 : Int} {x3 : Int} {x4 : Int} {x5 : Int} (h0 : x0 < 324) (h1 : x1 ≤ 6) (h2 : x2 = x1) (h3 : x3 < x2) (h4 : x4 = 6 * x0) (h5 : x5 = x4 + x3) : x5 < ((1944 : Nat) : Int) := by omega
theorem om_315 {x0 : Int} {x1 : Int} {x2 : Int} {x3 : Int} {x4 : Int} (h0 : x0 ≤ 6) (h1 : x1 ≤ 6) (h2 : x2 ≤ x0 + x3) (h3 : x4 = x1) (h4 : x3 < x4) : x2 < 12 := by omega
theorem om_316 {x0 : Int} {x1 : Int} (h0 : x0 ≤ 6) (h1 : x1 ≤ x0) : x1 + 1 ≤ 2147483647 := by omega
theorem om_317 {x0 : Int} {x1 : Int} {x2 : Int} {x3 : Int} (h0 : x0 = x1) (h1 : x2 < x0) (h2 : x3 = x2 + 1) : x3 ≤ x1 := by omega
theorem om_318 {x0 : Int} {x1 : Int} {x2 : Int} {x3 : Int} {x4 : Int} (h0 : x0 ≤ x1 + x2) (h1 : x3 ≤ x0 + 1) (h2 : x4 = x2 + 1) : x3 ≤ x1 + x4 := by omega
theorem om_319 {x0 : Int} {x1 : Int} {x2 : Int} (h0 : 0 ≤ x0) (h1 : x1 = x2 + 1) : ( x0 - x1 ) + 1 ≤ x0 - x2 := by omega
theorem om_320 {x0 : Int} {x1 : Int} {x2 : Int} (h0 : x0 = x1) (h1 : x2 < x0) : 0 < x1 - x2 := by omega
theorem om_321 {x0 : Int} {x1 : Int} {x2 : Int} (h0 : x0 ≤ x1) (h1 : x2 ≤ x0) : x2 ≤ x1 + 0 := by omega
theorem om_322 {x0 : Int} {x1 : Int} {x2 : Int} (h0 : x0 ≤ 6) (h1 : x1 ≤ x0) (h2 : x2 ≤ x1) : x2 < 12 := by omega
theorem om_323 {x0 : Int} {x1 : Int} {x2 : Int} {x3 : Int} (h0 : x0 ≤ x1) (h1 : x2 ≤ x0 + 1) (h2 : x3 = x1 + 1) : x2 ≤ x3 := by omega
theorem om_324 {x0 : Int} {x1 : Int} {x2 : Int} (h0 : x0 < x1) (h1 : x2 + 2 * ( x1 - x0 ) - 1 ≤ 319) : x2 + 1 ≤ 2147483647 := by omega
theorem om_325 {x0 : Int} {x1 : Int} {x2 : Int} (h0 : x0 < x1) (h1 : x2 + 2 * ( x1 - x0 ) - 1 ≤ 319) : x2 < ((320 : Nat) : Int) := by omega
theorem om_326 {x0 : Int} {x1 : Int} (h0 : x0 - x1 ≤ 1) : x0 - x1 ≤ 2147483647 := by omega
theorem om_327 {x0 : Int} {x1 : Int} {x2 : Int} (h0 : x0 < x1) (h1 : x2 + 2 * ( x1 - x0 ) - 1 ≤ 319) : x2 < 324 := by omega
theorem om_328 {x0 : Int} {x1 : Int} {x2 : Int} {x3 : Int} (h0 : x0 < x1) (h1 : x1 - x0 ≤ 1) (h2 : x2 = x3 + 1) : x2 = x3 + 2 * ( x1 - x0 ) - 1 := by omega
theorem om_329 {x0 : Int} {x1 : Int} (h0 : x0 - x1 ≤ 2) : x0 - x1 ≤ 2147483647 := by omega
theorem om_330 {x0 : Int} {x1 : Int} (h0 : 0 ≤ x0) (h1 : x0 < x1) : - 2147483648 ≤ x0 + x1 := by omega
theorem om_331 {x0 : Int} {x1 : Int} (h0 : x0 < x1) (h1 : x1 ≤ 160) : x0 + x1 ≤ 2147483647 := by omega
theorem om_332 {x0 : Int} {x1 : Int} {x2 : Int} (h0 : 0 ≤ x0) (h1 : x0 < x1) (h2 : x2 = x0 + x1) : 0 ≤ x2 := by omega
theorem om_333 {x0 : Int} {x1 : Int} {x2 : Int} {x3 : Int} (h0 : x0 < x1) (h1 : x1 ≤ 160) (h2 : x2 = x0 + x1) (h3 : 2 * x3 ≤ x2) : x3 ≤ 160 := by omega
theorem om_334 {x0 : Int} {x1 : Int} {x2 : Int} {x3 : Int} {x4 : Int} {x5 : Int} (h0 : x0 < x1) (h1 : x2 + 2 * ( x1 - x0 ) - 1 ≤ 319) (h2 : x3 = x2 + 1) (h3 : x4 = x0 + x1) (h4 : 2 * x5 ≤ x4) : x3 + 2 * ( x5 - x0 ) - 1 ≤ 319 := by omega
theorem om_335 {x0 : Int} {x1 : Int} {x2 : Int} {x3 : Int} (h0 : x0 - x1 ≤ 2) (h1 : x2 = x1 + x0) (h2 : 2 * x3 ≤ x2) : x3 - x1 ≤ 1 := by omega
theorem om_336 {x0 : Int} {x1 : Int} {x2 : Int} {x3 : Int} (h0 : 0 ≤ x0) (h1 : x0 < x1) (h2 : x2 = x0 + x1) (h3 : x2 ≤ 2 * x3 + 1) : 0 ≤ x3 := by omega
theorem om_337 {x0 : Int} {x1 : Int} {x2 : Int} {x3 : Int} {x4 : Int} {x5 : Int} {x6 : Int} (h0 : x0 < x1) (h1 : 0 ≤ x2) (h2 : x3 = x2 + 1) (h3 : x4 = x0 + x1) (h4 : x4 ≤ 2 * x5 + 1) (h5 : x6 = x3 + 2 * ( x5 - x0 ) - 1) : 0 ≤ x6 := by omega
theorem om_338 {x0 : Int} {x1 : Int} {x2 : Int} {x3 : Int} {x4 : Int} {x5 : Int} (h0 : x0 + 2 * ( x1 - x2 ) - 1 ≤ 319) (h1 : x3 = x0 + 1) (h2 : x4 = x3 + 2 * ( x5 - x2 ) - 1) : x4 + 2 * ( x1 - x5 ) - 1 ≤ 319 := by omega
theorem om_339 {x0 : Int} {x1 : Int} {x2 : Int} (h0 : 0 ≤ x0) (h1 : x1 = x0 + 1) (h2 : x2 = x1) : 0 ≤ x2 := by omega
theorem om_340 {x0 : Int} {x1 : Int} {x2 : Int} {x3 : Int} {x4 : Int} (h0 : x0 < x1) (h1 : x2 + 2 * ( x1 - x0 ) - 1 ≤ 319) (h2 : x3 = x2 + 1) (h3 : x4 = x3) : x4 < 324 := by omega
theorem om_341 {x0 : Int} {x1 : Int} {x2 : Int} {x3 : Int} {x4 : Int} {x5 : Int} {x6 : Int} {x7 : Int} (h0 : x0 < x1) (h1 : 0 ≤ x2) (h2 : x3 = x2 + 1) (h3 : x4 = x0 + x1) (h4 : x4 ≤ 2 * x5 + 1) (h5 : x6 = x3 + 2 * ( x5 - x0 ) - 1) (h6 : x7 = x6) : 0 ≤ x7 := by omega
theorem om_342 {x0 : Int} {x1 : Int} {x2 : Int} {x3 : Int} {x4 : Int} {x5 : Int} {x6 : Int} {x7 : Int} (h0 : x0 < x1) (h1 : x2 + 2 * ( x1 - x0 ) - 1 ≤ 319) (h2 : x3 = x2 + 1) (h3 : x4 = x0 + x1) (h4 : 2 * x5 ≤ x4) (h5 : x6 = x3 + 2 * ( x5 - x0 ) - 1) (h6 : x7 = x6) : x7 < 324 := by omega
theorem om_343 {x0 : Int} {x1 : Int} {x2 : Int} (h0 : x0 < x1) (h1 : x2 + 2 * ( x1 - x0 ) - 1 ≤ 319) : x2 ≤ 322 := by omega
theorem om_344 {x0 : Int} (h0 : x0 ≤ 6) : x0 ≤ 6 := by omega
theorem om_345 {x0 : Int} {x1 : Int} {x2 : Int} {x3 : Int} {x4 : Int} {x5 : Int} {x6 : Int} (h0 : x0 = x1 + 1) (h1 : x2 = x0 + 2 * ( x3 - x4 ) - 1) (h2 : x5 = x2 + 2 * ( x6 - x3 ) - 1) : x5 = x1 + 2 * ( x6 - x4 ) - 1 := by omega
theorem om_346 {x0 : Int} {x1 : Int} (h0 : x0 ≤ 6) (h1 : x1 ≤ x0) : x1 ≤ 6 := by omega
theorem om_347 {x0 : Int} {x1 : Int} {x2 : Int} {x3 : Int} {x4 : Int} (h0 : x0 < x1) (h1 : x2 = x3 + 1) (h2 : x4 = x1 - x0) (h3 : x4 = 1) : x2 = x3 + 2 * ( x1 - x0 ) - 1 := by omega
theorem om_348 {x0 : Int} {x1 : Int} (h0 : x0 - x1 ≤ 4) : x0 - x1 ≤ 2147483647 := by omega
theorem om_349 {x0 : Int} {x1 : Int} {x2 : Int} {x3 : Int} (h0 : x0 - x1 ≤ 4) (h1 : x2 = x1 + x0) (h2 : 2 * x3 ≤ x2) : x3 - x1 ≤ 2 := by omega
theorem om_350 {x0 : Int} {x1 : Int} (h0 : x0 - x1 ≤ 8) : x0 - x1 ≤ 2147483647 := by omega
theorem om_351 {x0 : Int} {x1 : Int} {x2 : Int} {x3 : Int} (h0 : x0 - x1 ≤ 8) (h1 : x2 = x1 + x0) (h2 : 2 * x3 ≤ x2) : x3 - x1 ≤ 4 := by omega
theorem om_352 {x0 : Int} {x1 : Int} (h0 : x0 - x1 ≤ 16) : x0 - x1 ≤ 2147483647 := by omega
theorem om_353 {x0 : Int} {x1 : Int} {x2 : Int} {x3 : Int} (h0 : x0 - x1 ≤ 16) (h1 : x2 = x1 + x0) (h2 : 2 * x3 ≤ x2) : x3 - x1 ≤ 8 := by omega
theorem om_354 {x0 : Int} {x1 : Int} (h0 : x0 - x1 ≤ 32) : x0 - x1 ≤ 2147483647 := by omega
theorem om_355 {x0 : Int} {x1 : Int} {x2 : Int} {x3 : Int} (h0 : x0 - x1 ≤ 32) (h1 : x2 = x1 + x0) (h2 : 2 * x3 ≤ x2) : x3 - x1 ≤ 16 := by omega
theorem om_356 {x0 : Int} {x1 : Int} (h0 : x0 - x1 ≤ 64) : x0 - x1 ≤ 2147483647 := by omega
theorem om_357 {x0 : Int} {x1 : Int} {x2 : Int} {x3 : Int} (h0 : x0 - x1 ≤ 64) (h1 : x2 = x1 + x0) (h2 : 2 * x3 ≤ x2) : x3 - x1 ≤ 32 := by omega
theorem om_358 {x0 : Int} {x1 : Int} (h0 : x0 - x1 ≤ 128) : x0 - x1 ≤ 2147483647 := by omega
theorem om_359 {x0 : Int} {x1 : Int} {x2 : Int} {x3 : Int} (h0 : x0 - x1 ≤ 128) (h1 : x2 = x1 + x0) (h2 : 2 * x3 ≤ x2) : x3 - x1 ≤ 64 := by omega
theorem om_360 {x0 : Int} {x1 : Int} (h0 : x0 - x1 ≤ 256) : x0 - x1 ≤ 2147483647 := by omega
theorem om_361 {x0 : Int} {x1 : Int} {x2 : Int} {x3 : Int} (h0 : x0 - x1 ≤ 256) (h1 : x2 = x1 + x0) (h2 : 2 * x3 ≤ x2) : x3 - x1 ≤ 128 := by omega
theorem om_362 {x0 : Int} {x1 : Int} {x2 : Int} {x3 : Int} {x4 : Int} (h0 : 0 ≤ x0) (h1 : x0 + 2 * ( x1 - x2 ) - 1 ≤ 319) (h2 : x3 = x2 + x1) (h3 : x3 ≤ 2 * x4 + 1) : x1 - x4 ≤ 128 := by omega
theorem om_363 {x0 : Int} (h0 : x0 ≤ 160) : 0 + 2 * ( x0 - 0 ) - 1 ≤ 319 := by omega
theorem om_364 {x0 : Int} (h0 : x0 ≤ 160) : x0 - 0 ≤ 256 := by omega
theorem om_365 {x0 : Int} (h0 : 0 < x0) : 0 ≤ x0 := by omega
theorem om_366 {x0 : Int} {x1 : Int} {x2 : Int} (h0 : x0 < 324) (h1 : x1 ≤ 6) (h2 : x2 = 6 * x0) : x2 + x1 ≤ 2147483647 := by omega
theorem om_367 {x0 : Int} {x1 : Int} (h0 : x0 < 6) (h1 : x1 = x0 + 1) : x1 ≤ 6 := by omega
theorem om_368  : (0 : Int) ≤ 6 := by omega
theorem om_369 {x0 : Int} {x1 : Int} (h0 : x0 ≤ 319) (h1 : x1 ≤ x0) : x1 < ((320 : Nat) : Int) := by omega
theorem om_370 {x0 : Int} {x1 : Int} (h0 : x0 ≤ 319) (h1 : x1 ≤ x0) : x1 + 1 ≤ 2147483647 := by omega
theorem om_371 {x0 : Int} {x1 : Int} {x2 : Int} (h0 : x0 ≤ 319) (h1 : x1 ≤ x0) (h2 : x2 ≤ x1) : x2 < ((320 : Nat) : Int) := by omega
theorem om_372 {x0 : Int} {x1 : Int} {x2 : Int} (h0 : x0 ≤ 319) (h1 : x1 ≤ x0) (h2 : x2 ≤ x1) : x2 + 1 ≤ 2147483647 := by omega
theorem om_373  : (0 : Int) < ((320 : Nat) : Int) := by omega
theorem om_374 {x0 : Int} {x1 : Int} (h0 : x0 = x1) (h1 : x1 < 320) : x0 < 324 := by omega
theorem om_375  : (0 : Int) ≤ 320 := by omega
theorem om_376  : (320 : Int) < 324 := by omega
theorem om_377 {x0 : Int} {x1 : Int} (h0 : 1 ≤ x0) (h1 : x1 = x0 + 1) : 0 ≤ x1 := by omega
theorem om_378 {x0 : Int} (h0 : x0 ≤ 319) : x0 ≤ 320 := by omega
theorem om_379 {x0 : Int} {x1 : Int} (h0 : x0 = x1) (h1 : 0 ≤ x1) : - 2147483648 ≤ x0 - 1 := by omega
theorem om_380 {x0 : Int} {x1 : Int} (h0 : x0 = x1) (h1 : x1 ≤ 6) : x0 - 1 ≤ 2147483647 := by omega
theorem om_381 {x0 : Int} {x1 : Int} (h0 : x0 = x1) (h1 : 0 ≤ x1) : - 2147483648 ≤ x0 + 1 := by omega
theorem om_382 {x0 : Int} {x1 : Int} {x2 : Int} (h0 : x0 = x1) (h1 : x2 = x0 + 1) (h2 : 0 ≤ x1) : 0 ≤ x2 := by omega
theorem om_383 {x0 : Int} (h0 : x0 ≤ 9) : x0 - 1 ≤ 2147483647 := by omega
theorem om_384 {x0 : Int} {x1 : Int} {x2 : Int} (h0 : x0 ≤ 9) (h1 : x1 = x0 - 1) (h2 : x2 ≤ x1) : x2 < ((12 : Nat) : Int) := by omega
theorem om_385 {x0 : Int} {x1 : Int} {x2 : Int} (h0 : x0 < x1) (h1 : x2 = x1 - 1) : - 2147483648 ≤ x2 - x0 := by omega
theorem om_386 {x0 : Int} {x1 : Int} {x2 : Int} (h0 : x0 ≤ 9) (h1 : 0 ≤ x1) (h2 : x2 = x0 - 1) : x2 - x1 ≤ 2147483647 := by omega
theorem om_387 {x0 : Int} {x1 : Int} {x2 : Int} {x3 : Int} (h0 : x0 < x1) (h1 : x2 = x1 - 1) (h2 : x3 = x2 - x0) : 0 ≤ x3 := by omega
theorem om_388 {x0 : Int} {x1 : Int} {x2 : Int} {x3 : Int} (h0 : x0 ≤ 9) (h1 : 0 ≤ x1) (h2 : x2 = x0 - 1) (h3 : x3 = x2 - x1) : x3 < ((12 : Nat) : Int) := by omega
theorem om_389 {x0 : Int} {x1 : Int} (h0 : x0 ≤ 9) (h1 : x1 ≤ x0) : x1 + 1 ≤ 2147483647 := by omega
theorem om_390 {x0 : Int} {x1 : Int} (h0 : x0 ≤ 319) (h1 : x1 ≤ x0) : x1 - 1 ≤ 2147483647 := by omega
theorem om_391 {x0 : Int} {x1 : Int} {x2 : Int} {x3 : Int} (h0 : x0 ≤ 319) (h1 : x1 ≤ x0) (h2 : x2 = x1 - 1) (h3 : x3 ≤ x2) : x3 < ((320 : Nat) : Int) := by omega
theorem om_392 {x0 : Int} {x1 : Int} (h0 : x0 = x1) (h1 : x1 < 320) : x0 < ((320 : Nat) : Int) := by omega
theorem om_393  : (320 : Int) < ((324 : Nat) : Int) := by omega
theorem om_394 {x0 : Int} (h0 : 0 ≤ x0) : - 2147483648 ≤ 1920 + x0 := by omega
theorem om_395 {x0 : Int} {x1 : Int} {x2 : Int} {x3 : Int} (h0 : x0 = x1) (h1 : x1 ≤ 6) (h2 : x2 = x0 - 1) (h3 : x3 ≤ x2) : 1920 + x3 ≤ 2147483647 := by omega
theorem om_396 {x0 : Int} {x1 : Int} (h0 : 0 ≤ x0) (h1 : x1 = 1920 + x0) : 0 ≤ x1 := by omega
theorem om_397 {x0 : Int} {x1 : Int} {x2 : Int} {x3 : Int} {x4 : Int} (h0 : x0 = x1) (h1 : x1 ≤ 6) (h2 : x2 = x0 - 1) (h3 : x3 ≤ x2) (h4 : x4 = 1920 + x3) : x4 < ((1944 : Nat) : Int) := by omega
theorem om_398 {x0 : Int} {x1 : Int} {x2 : Int} (h0 : x0 = x1) (h1 : x1 ≤ 6) (h2 : x2 < x0) : 1920 + x2 ≤ 2147483647 := by omega
theorem om_399 {x0 : Int} {x1 : Int} {x2 : Int} {x3 : Int} (h0 : x0 = x1) (h1 : x1 ≤ 6) (h2 : x2 < x0) (h3 : x3 = 1920 + x2) : x3 < ((1944 : Nat) : Int) := by omega
theorem om_400 {x0 : Int} (h0 : x0 ≤ 0) : x0 < ((160 : Nat) : Int) := by omega
theorem om_401 {x0 : Int} {x1 : Int} {x2 : Int} {x3 : Int} (h0 : x0 ≤ x1) (h1 : x2 - x3 + x1 - x0 ≤ 160) : x2 - x3 ≤ 2147483647 := by omega
theorem om_402 {x0 : Int} {x1 : Int} {x2 : Int} {x3 : Int} {x4 : Int} (h0 : x0 ≤ x1) (h1 : 0 ≤ x2) (h2 : x2 ≤ x3) (h3 : x4 = x1 - x0) : - 2147483648 ≤ x4 + x3 := by omega
theorem om_403 {x0 : Int} {x1 : Int} {x2 : Int} {x3 : Int} {x4 : Int} (h0 : x0 ≤ x1) (h1 : x1 ≤ 160) (h2 : x2 - x3 + x1 - x0 ≤ 160) (h3 : x4 = x2 - x3) : x4 + x1 ≤ 2147483647 := by omega
theorem om_404 {x0 : Int} {x1 : Int} {x2 : Int} {x3 : Int} {x4 : Int} {x5 : Int} (h0 : x0 ≤ x1) (h1 : x2 ≤ x3) (h2 : x4 = x1 - x0) (h3 : x5 = x4 + x3) : - 2147483648 ≤ x5 - x2 := by omega
theorem om_405 {x0 : Int} {x1 : Int} {x2 : Int} {x3 : Int} {x4 : Int} {x5 : Int} (h0 : x0 - x1 + x2 - x3 ≤ 160) (h1 : x4 = x0 - x1) (h2 : x5 = x4 + x2) : x5 - x3 ≤ 2147483647 := by omega
theorem om_406 {x0 : Int} {x1 : Int} {x2 : Int} {x3 : Int} {x4 : Int} {x5 : Int} (h0 : x0 ≤ x1 - x2 + x3 - x4) (h1 : x5 = x3 + 1) : x0 ≤ x1 - x2 + x5 - x4 := by omega
theorem om_407 {x0 : Int} {x1 : Int} {x2 : Int} {x3 : Int} {x4 : Int} {x5 : Int} (h0 : x0 - x1 + x2 - x3 ≤ 160) (h1 : x4 ≤ x0 - x1 + x5 - x3) (h2 : x5 < x2) : x4 < 160 := by omega
theorem om_408 {x0 : Int} {x1 : Int} {x2 : Int} {x3 : Int} {x4 : Int} {x5 : Int} {x6 : Int} (h0 : x0 ≤ x1 - x2 + x3 - x4) (h1 : x5 = x0 + 1) (h2 : x6 = x3 + 1) : x5 ≤ x1 - x2 + x6 - x4 := by omega
theorem om_409 {x0 : Int} {x1 : Int} {x2 : Int} {x3 : Int} {x4 : Int} (h0 : x0 ≤ x1) (h1 : x2 ≤ x0 - x3) : x2 ≤ x1 - x3 + x4 - x4 := by omega
theorem om_410 {x0 : Int} {x1 : Int} {x2 : Int} {x3 : Int} (h0 : x0 ≤ x1 - x2) (h1 : x3 = x1 + 1) : x0 ≤ x3 - x2 := by omega
theorem om_411 {x0 : Int} {x1 : Int} {x2 : Int} {x3 : Int} {x4 : Int} {x5 : Int} (h0 : x0 ≤ x1) (h1 : x2 - x3 + x1 - x0 ≤ 160) (h2 : x4 ≤ x5 - x3) (h3 : x5 < x2) : x4 < 160 := by omega
theorem om_412 {x0 : Int} {x1 : Int} {x2 : Int} {x3 : Int} {x4 : Int} (h0 : x0 ≤ x1 - x2) (h1 : x3 = x0 + 1) (h2 : x4 = x1 + 1) : x3 ≤ x4 - x2 := by omega
theorem om_413 {x0 : Int}  : 0 ≤ x0 - x0 := by omega
theorem om_414 {x0 : Int} {x1 : Int} (h0 : x0 < x1) : x0 ≤ x1 := by omega
theorem om_415  : (0 : Int) ≤ 160 := by omega
theorem om_416 {x0 : Int} {x1 : Int} {x2 : Int} (h0 : x0 ≤ 160) (h1 : 0 ≤ x1) (h2 : x2 ≤ x0) : x2 - x1 + 0 - 0 ≤ 160 := by omega
theorem om_417 {x0 : Int} {x1 : Int} {x2 : Int} {x3 : Int} {x4 : Int} (h0 : x0 ≤ 160) (h1 : x1 ≤ x0) (h2 : 0 ≤ x2) (h3 : x3 ≤ x4) : x1 - x4 + x3 - x2 ≤ 160 := by omega
theorem om_418 {x0 : Int} {x1 : Int} {x2 : Int} {x3 : Int} {x4 : Int} (h0 : x0 ≤ 160) (h1 : 0 ≤ x1) (h2 : x2 ≤ x0) (h3 : x3 ≤ x4) : x3 - x1 + x2 - x4 ≤ 160 := by omega
theorem om_419 {x0 : Int} (h0 : - 3 ≤ x0) : - 2147483648 ≤ x0 - 1 := by omega
theorem om_420 {x0 : Int} {x1 : Int} {x2 : Int} (h0 : x0 = x1 - x2) (h1 : x0 ≤ 64) : x1 - x2 + 0 - 0 ≤ 160 := by omega
theorem om_421 {x0 : Int} (h0 : x0 ≤ 7) : x0 + 1 ≤ 2147483647 := by omega
theorem om_422 {x0 : Int} {x1 : Int} (h0 : x0 ≤ 6) (h1 : x1 = x0 + 1) : x1 ≤ 7 := by omega
theorem om_423  : (1 : Int) ≤ 7 := by omega
theorem om_424 {x0 : Int} {x1 : Int} (h0 : x0 ≤ 319) (h1 : x1 < x0) : x1 < ((324 : Nat) : Int) := by omega
theorem om_425 {x0 : Int} {x1 : Int} (h0 : x0 ≤ 319) (h1 : x1 < x0) : x1 < ((320 : Nat) : Int) := by omega
theorem om_426 {x0 : Int} {x1 : Int} (h0 : x0 ≤ 319) (h1 : x1 < x0) : 6 * x1 ≤ 2147483647 := by omega
theorem om_427 {x0 : Int} {x1 : Int} {x2 : Int} {x3 : Int} {x4 : Int} {x5 : Int} (h0 : x0 ≤ 319) (h1 : x1 < x0) (h2 : x2 = x3) (h3 : x3 ≤ 6) (h4 : x4 < x2) (h5 : x5 = 6 * x1) : x5 + x4 ≤ 2147483647 := by omega
theorem om_428 {x0 : Int} {x1 : Int} {x2 : Int} {x3 : Int} {x4 : Int} {x5 : Int} {x6 : Int} (h0 : x0 ≤ 319) (h1 : x1 < x0) (h2 : x2 = x3) (h3 : x3 ≤ 6) (h4 : x4 < x2) (h5 : x5 = 6 * x1) (h6 : x6 = x5 + x4) : x6 < ((1944 : Nat) : Int) := by omega
theorem om_429 {x0 : Int} {x1 : Int} {x2 : Int} {x3 : Int} {x4 : Int} {x5 : Int} {x6 : Int} (h0 : x0 ≤ 319) (h1 : x1 < x0) (h2 : x2 = x3) (h3 : x3 ≤ 6) (h4 : x4 < x2) (h5 : x5 = 6 * x1) (h6 : x6 = x5 + x4) : x6 < ((1920 : Nat) : Int) := by omega
theorem om_430 {x0 : Int} {x1 : Int} {x2 : Int} (h0 : x0 ≤ 160) (h1 : x1 ≤ x0) (h2 : x2 < x1) : x2 < ((160 : Nat) : Int) := by omega
theorem om_431 {x0 : Int} {x1 : Int} {x2 : Int} (h0 : x0 < x1) (h1 : x2 = x1 - x0) : 0 ≤ x2 := by omega
theorem om_432 {x0 : Int} {x1 : Int} (h0 : 0 ≤ x0) (h1 : 0 ≤ x1) : - 2147483648 ≤ x0 + x1 := by omega
theorem om_433 {x0 : Int} {x1 : Int} {x2 : Int} {x3 : Int} (h0 : x0 ≤ 160) (h1 : x1 < x2) (h2 : x2 ≤ x0) (h3 : 2 * x3 ≤ x2 - x1) : x1 + x3 ≤ 2147483647 := by omega
theorem om_434 {x0 : Int} {x1 : Int} {x2 : Int} {x3 : Int} (h0 : 0 ≤ x0) (h1 : x0 < x1) (h2 : 2 * x2 ≤ x1 - x0) (h3 : x3 = x1 - 1) : - 2147483648 ≤ x3 - x2 := by omega
theorem om_435 {x0 : Int} {x1 : Int} {x2 : Int} {x3 : Int} (h0 : x0 ≤ 160) (h1 : x1 ≤ x0) (h2 : 0 ≤ x2) (h3 : x3 = x1 - 1) : x3 - x2 ≤ 2147483647 := by omega
theorem om_436 {x0 : Int} {x1 : Int} {x2 : Int} (h0 : 0 ≤ x0) (h1 : 0 ≤ x1) (h2 : x2 = x0 + x1) : 0 ≤ x2 := by omega
theorem om_437 {x0 : Int} {x1 : Int} {x2 : Int} {x3 : Int} {x4 : Int} {x5 : Int} {x6 : Int} (h0 : x0 ≤ 160) (h1 : x1 < x2) (h2 : x2 ≤ x0) (h3 : 2 * x3 ≤ x2 - x1) (h4 : x4 = x2 - x1) (h5 : 2 * x5 ≤ x4) (h6 : x3 < x5) (h7 : x6 = x1 + x3) : x6 < 160 := by omega
theorem om_438 {x0 : Int} {x1 : Int} {x2 : Int} {x3 : Int} {x4 : Int} {x5 : Int} {x6 : Int} (h0 : 0 ≤ x0) (h1 : x0 < x1) (h2 : 2 * x2 ≤ x1 - x0) (h3 : x3 = x1 - x0) (h4 : 2 * x4 ≤ x3) (h5 : x2 < x4) (h6 : x5 = x1 - 1) (h7 : x6 = x5 - x2) : 0 ≤ x6 := by omega
theorem om_439 {x0 : Int} {x1 : Int} {x2 : Int} {x3 : Int} {x4 : Int} (h0 : x0 ≤ 160) (h1 : x1 ≤ x0) (h2 : 0 ≤ x2) (h3 : x3 = x1 - 1) (h4 : x4 = x3 - x2) : x4 < 160 := by omega
theorem om_440 {x0 : Int} {x1 : Int} {x2 : Int} {x3 : Int} {x4 : Int} {x5 : Int} (h0 : x0 = x1 - x2) (h1 : 2 * x3 ≤ x0) (h2 : x4 < x3) (h3 : x5 = x4 + 1) : 2 * x5 ≤ x1 - x2 := by omega
theorem om_441 {x0 : Int} {x1 : Int} {x2 : Int} {x3 : Int} {x4 : Int} (h0 : x0 ≤ 160) (h1 : 0 ≤ x1) (h2 : x2 ≤ x0) (h3 : 2 * x3 ≤ x2 - x1) (h4 : x3 ≤ 160) (h5 : x4 = x3 + 1) : x4 ≤ 160 := by omega
theorem om_442 {x0 : Int} {x1 : Int} {x2 : Int} {x3 : Int} (h0 : x0 = x1 + 1) : ( x2 - x3 - 2 * x0 ) + 1 ≤ x2 - x3 - 2 * x1 := by omega
theorem om_443 {x0 : Int} {x1 : Int} {x2 : Int} {x3 : Int} {x4 : Int} (h0 : 2 * x0 ≤ x1 - x2) (h1 : x3 = x1 - x2) (h2 : 2 * x4 ≤ x3) (h3 : x0 < x4) : 0 < x1 - x2 - 2 * x0 := by omega
theorem om_444 {x0 : Int} {x1 : Int} (h0 : x0 < x1) : 2 * 0 ≤ x1 - x0 := by omega
theorem om_445 {x0 : Int} {x1 : Int} (h0 : 0 ≤ x0) (h1 : x1 ≤ 160) : x1 - x0 ≤ 2147483647 := by omega
theorem om_446  : (0 : Int) < 324 := by omega
theorem om_447 {x0 : Int} {x1 : Int} (h0 : 0 ≤ x0) (h1 : x0 ≤ x1) : - 2147483648 ≤ x0 + x1 := by omega
theorem om_448 {x0 : Int} {x1 : Int} (h0 : x0 ≤ x1) (h1 : x1 ≤ 160) : x0 + x1 ≤ 2147483647 := by omega
theorem om_449 {x0 : Int} {x1 : Int} {x2 : Int} (h0 : 0 ≤ x0) (h1 : x0 ≤ x1) (h2 : x2 = x0 + x1) : 0 ≤ x2 := by omega
theorem om_450 {x0 : Int} {x1 : Int} {x2 : Int} {x3 : Int} {x4 : Int} (h0 : x0 ≤ x1) (h1 : x2 = x1 - x0) (h2 : 2 ≤ x2) (h3 : x3 = x0 + x1) (h4 : x3 ≤ 2 * x4 + 1) : x0 ≤ x4 := by omega
theorem om_451 {x0 : Int} {x1 : Int} {x2 : Int} {x3 : Int} (h0 : x0 ≤ x1) (h1 : x1 ≤ 160) (h2 : x2 = x0 + x1) (h3 : 2 * x3 ≤ x2) : x3 ≤ 160 := by omega
theorem om_452 {x0 : Int} {x1 : Int} {x2 : Int} {x3 : Int} {x4 : Int} (h0 : 0 ≤ x0) (h1 : x0 ≤ x1) (h2 : x2 = x1 - x0) (h3 : 2 ≤ x2) (h4 : x3 = x0 + x1) (h5 : x3 ≤ 2 * x4 + 1) : 0 ≤ x4 := by omega
theorem om_453 {x0 : Int} {x1 : Int} {x2 : Int} {x3 : Int} (h0 : x0 ≤ x1) (h1 : x2 = x0 + x1) (h2 : 2 * x3 ≤ x2) : x3 ≤ x1 := by omega
theorem om_454 {x0 : Int} (h0 : 0 ≤ x0) : - 2147483648 ≤ 1 + x0 := by omega
theorem om_455 {x0 : Int} (h0 : x0 ≤ 1) : 1 + x0 ≤ 2147483647 := by omega
theorem om_456 {x0 : Int} (h0 : x0 ≤ 2) : 1 + x0 ≤ 2147483647 := by omega
theorem om_457 {x0 : Int} (h0 : x0 ≤ 3) : 1 + x0 ≤ 2147483647 := by omega
theorem om_458 {x0 : Int} (h0 : x0 ≤ 4) : 1 + x0 ≤ 2147483647 := by omega
theorem om_459 {x0 : Int} (h0 : x0 ≤ 5) : 1 + x0 ≤ 2147483647 := by omega
theorem om_460 {x0 : Int} (h0 : x0 ≤ 6) : 1 + x0 ≤ 2147483647 := by omega
theorem om_461 {x0 : Int} (h0 : x0 ≤ 7) : 1 + x0 ≤ 2147483647 := by omega
theorem om_462 {x0 : Int} {x1 : Int} {x2 : Int} {x3 : Int} (h0 : 0 ≤ x0) (h1 : x1 ≤ 160) (h2 : x1 - x0 ≤ 256) (h3 : x2 = x0 + x1) (h4 : x2 ≤ 2 * x3 + 1) : x1 - x3 ≤ 128 := by omega
theorem om_463 {x0 : Int} (h0 : x0 ≤ 8) : 1 + x0 ≤ 2147483647 := by omega
theorem om_464 {x0 : Int} {x1 : Int} {x2 : Int} {x3 : Int} {x4 : Int} (h0 : 0 ≤ x0) (h1 : x1 = x0 + 1) (h2 : x2 = x1 + 1) (h3 : x3 = x2 + 1) (h4 : x4 = x3 + 1) : 0 ≤ x4 := by omega
theorem om_465 {x0 : Int} {x1 : Int} {x2 : Int} {x3 : Int} {x4 : Int} (h0 : x0 ≤ 160) (h1 : x1 < x2) (h2 : x2 ≤ x0) (h3 : x3 + x4 = x1 + x2 - 1) (h4 : x3 < x4) : x3 < 160 := by omega
theorem om_466 {x0 : Int} {x1 : Int} {x2 : Int} {x3 : Int} (h0 : 0 ≤ x0) (h1 : x0 < x1) (h2 : x2 + x3 = x0 + x1 - 1) (h3 : - 1 ≤ x3) (h4 : x2 < x3) : 0 ≤ x3 := by omega
theorem om_467 {x0 : Int} {x1 : Int} {x2 : Int} {x3 : Int} {x4 : Int} (h0 : x0 ≤ 160) (h1 : x1 ≤ x0) (h2 : x2 ≤ x3) (h3 : x3 + x4 = x2 + x1 - 1) : x4 < 160 := by omega
theorem om_468 {x0 : Int} {x1 : Int} {x2 : Int} {x3 : Int} {x4 : Int} (h0 : x0 ≤ 160) (h1 : x1 < x2) (h2 : x2 ≤ x0) (h3 : x3 + x4 = x1 + x2 - 1) (h4 : x3 < x4) : x3 + 1 ≤ 2147483647 := by omega
theorem om_469 {x0 : Int} {x1 : Int} {x2 : Int} {x3 : Int} {x4 : Int} (h0 : x0 ≤ 160) (h1 : x1 ≤ x0) (h2 : x2 ≤ x3) (h3 : x3 + x4 = x2 + x1 - 1) : x4 + ( - 1 ) ≤ 2147483647 := by omega
theorem om_470 {x0 : Int} {x1 : Int} {x2 : Int} {x3 : Int} {x4 : Int} {x5 : Int} (h0 : x0 + x1 = x2 + x3 - 1) (h1 : x4 = x0 + 1) (h2 : x5 = x1 + ( - 1 )) : x4 + x5 = x2 + x3 - 1 := by omega
theorem om_471 {x0 : Int} {x1 : Int} {x2 : Int} {x3 : Int} (h0 : x0 < x1) (h1 : x2 = x0 + 1) (h2 : x3 = x1 + ( - 1 )) : x2 ≤ x3 + 1 := by omega
theorem om_472 {x0 : Int} {x1 : Int} {x2 : Int} {x3 : Int} {x4 : Int} (h0 : 0 ≤ x0) (h1 : x0 < x1) (h2 : x2 + x3 = x0 + x1 - 1) (h3 : - 1 ≤ x3) (h4 : x2 < x3) (h5 : x4 = x3 + ( - 1 )) : - 1 ≤ x4 := by omega
theorem om_473 {x0 : Int} {x1 : Int} {x2 : Int} (h0 : x0 = x1 - 1) : x2 + x0 = x2 + x1 - 1 := by omega
theorem om_474 {x0 : Int} {x1 : Int} {x2 : Int} (h0 : x0 < x1) (h1 : x2 = x1 - 1) : x0 ≤ x2 + 1 := by omega
theorem om_475 {x0 : Int} {x1 : Int} (h0 : x0 = x1) (h1 : 0 ≤ x0) : 0 ≤ x1 := by omega
theorem om_476 {x0 : Int} {x1 : Int} {x2 : Int} (h0 : x0 = x1) (h1 : x1 ≤ 6) (h2 : x2 < x0) : x2 < ((12 : Nat) : Int) := by omega
theorem om_477 {x0 : Int} {x1 : Int} {x2 : Int} (h0 : 0 ≤ x0) (h1 : x1 ≤ 160) (h2 : x2 = x1 - x0) : x2 ≤ 320 := by omega
theorem om_478  : (0 : Int) ≤ 1 := by omega
theorem om_479  : (1 : Int) ≤ 999 := by omega
theorem om_480  : (0 : Int) ≤ 2 := by omega
theorem om_481  : (2 : Int) ≤ 999 := by omega
theorem om_482 {x0 : Int} {x1 : Int} {x2 : Int} {x3 : Int} (h0 : 0 ≤ x0) (h1 : x1 ≤ 160) (h2 : x2 ≤ x3 - x0) (h3 : x3 < x1) : x2 + ( - 1 ) ≤ 2147483647 := by omega
theorem om_483 {x0 : Int} {x1 : Int} {x2 : Int} {x3 : Int} {x4 : Int} (h0 : x0 ≤ x1 - x2) (h1 : x3 = x0 + ( - 1 )) (h2 : x4 = x1 + 1) : x3 ≤ x4 - x2 := by omega
theorem om_484 {x0 : Int} {x1 : Int} {x2 : Int} {x3 : Int} (h0 : 0 ≤ x0) (h1 : x1 ≤ 160) (h2 : x2 ≤ x3 - x0) (h3 : x3 < x1) : x2 + 1 ≤ 2147483647 := by omega
theorem om_485 {x0 : Int} {x1 : Int} {x2 : Int} (h0 : x0 ≤ x1) (h1 : x2 = x1 + 1) : 1 ≤ x2 - x0 := by omega
theorem om_486 {x0 : Int} {x1 : Int} (h0 : 0 ≤ x0) (h1 : x0 + 1 ≤ x1) : 0 ≤ x1 := by omega
theorem om_487 {x0 : Int} {x1 : Int} (h0 : x0 + 1 ≤ x1) : x0 < x1 := by omega
theorem om_488 {x0 : Int} {x1 : Int} (h0 : 0 ≤ x0) (h1 : x0 + 1 ≤ x1) : - 2147483648 ≤ x1 + 1 := by omega
theorem om_489 {x0 : Int} {x1 : Int} {x2 : Int} (h0 : x0 + 1 ≤ x1) (h1 : x2 = x1 + 1) : x0 + 1 ≤ x2 := by omega
theorem om_490 {x0 : Int} {x1 : Int} {x2 : Int} (h0 : 0 ≤ x0) (h1 : x0 + 1 ≤ x1) (h2 : x2 = x1 + 1) : 0 ≤ x2 := by omega
theorem om_491 {x0 : Int} {x1 : Int} (h0 : x0 = x1 + 1) : x1 + 1 ≤ x0 := by omega
