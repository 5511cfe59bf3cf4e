theorem om_mu {a b : Int} {n : Nat} (hn : b.toNat < n + 1) (h1 : a + 1 ≤ b) (h2 : 0 < b) : a.toNat < n := by omega
theorem om_0 {x0 : Int} {x1 : Int} (h0 : 0 ≤ x0) (h1 : x0 ≤ x1) : 0 ≤ x1 := by omega
theorem om_1 {x0 : Int} {x1 : Int} (h0 : x0 ≤ 160) (h1 : x1 < x0) : x1 < ((160 : Nat) : Int) := by omega
theorem om_2 {x0 : Int} {x1 : Int} (h0 : 0 ≤ x0) (h1 : x0 ≤ x1) : - 2147483648 ≤ x1 + 1 := by omega
theorem om_3 {x0 : Int} {x1 : Int} (h0 : x0 ≤ 160) (h1 : x1 < x0) : x1 + 1 ≤ 2147483647 := by omega
theorem om_4 {x0 : Int} {x1 : Int} {x2 : Int} (h0 : x0 ≤ x1) (h1 : x2 = x1 + 1) : x0 ≤ x2 := by omega
theorem om_5 {x0 : Int} {x1 : Int} {x2 : Int} (h0 : x0 = x1 + 1) : ( x2 - x0 ) + 1 ≤ x2 - x1 := by omega
theorem om_6 {x0 : Int} {x1 : Int} (h0 : x0 < x1) : 0 < x1 - x0 := by omega
theorem om_7 {x0 : Int}  : x0 ≤ x0 := by omega
theorem om_8 {x0 : Int} (h0 : 0 ≤ x0) : 0 ≤ x0 := by omega
theorem om_9 {x0 : Int} (h0 : x0 < 160) : x0 < ((160 : Nat) : Int) := by omega
theorem om_10 {x0 : Int} (h0 : 0 ≤ x0) : - 2147483648 ≤ x0 + 1 := by omega
theorem om_11 {x0 : Int} (h0 : x0 < 160) : x0 + 1 ≤ 2147483647 := by omega
theorem om_12 {x0 : Int} {x1 : Int} (h0 : x0 ≤ x1) (h1 : x1 < 160) : x0 < ((160 : Nat) : Int) := by omega
theorem om_13 {x0 : Int} {x1 : Int} (h0 : x0 ≤ x1) (h1 : 0 ≤ x0) : - 2147483648 ≤ x1 + 1 := by omega
theorem om_14 {x0 : Int} {x1 : Int} (h0 : 0 ≤ x0) (h1 : x0 < x1) : - 2147483648 ≤ x1 - 1 := by omega
theorem om_15 {x0 : Int} {x1 : Int} (h0 : x0 < 160) (h1 : x1 ≤ x0) : x1 - 1 ≤ 2147483647 := by omega
theorem om_16 {x0 : Int} {x1 : Int} {x2 : Int} (h0 : 0 ≤ x0) (h1 : x0 < x1) (h2 : x2 = x1 - 1) : 0 ≤ x2 := by omega
theorem om_17 {x0 : Int} {x1 : Int} {x2 : Int} (h0 : x0 < 160) (h1 : x1 ≤ x0) (h2 : x2 = x1 - 1) : x2 < ((160 : Nat) : Int) := by omega
theorem om_18 {x0 : Int} {x1 : Int} (h0 : 0 ≤ x0) (h1 : x0 < x1) : 0 ≤ x1 := by omega
theorem om_19 {x0 : Int} {x1 : Int} (h0 : x0 < 160) (h1 : x1 ≤ x0) : x1 < ((160 : Nat) : Int) := by omega
theorem om_20 {x0 : Int} {x1 : Int} (h0 : 0 ≤ x0) (h1 : x0 < x1) : - 2147483648 ≤ x1 + ( - 1 ) := by omega
theorem om_21 {x0 : Int} {x1 : Int} (h0 : x0 < 160) (h1 : x1 ≤ x0) : x1 + ( - 1 ) ≤ 2147483647 := by omega
theorem om_22 {x0 : Int} {x1 : Int} {x2 : Int} (h0 : x0 < x1) (h1 : x2 = x1 + ( - 1 )) : x0 ≤ x2 := by omega
theorem om_23 {x0 : Int} {x1 : Int} {x2 : Int} (h0 : x0 ≤ x1) (h1 : x2 = x0 + ( - 1 )) : x2 ≤ x1 := by omega
theorem om_24 {x0 : Int} {x1 : Int} (h0 : x0 = x1 + ( - 1 )) : ( x0 ) + 1 ≤ x1 := by omega
theorem om_25 {x0 : Int} {x1 : Int} (h0 : 0 ≤ x0) (h1 : x0 < x1) : 0 < x1 := by omega
theorem om_26 {x0 : Int} {x1 : Int} (h0 : x0 ≤ x1) : x0 ≤ x1 := by omega
theorem om_27 {x0 : Int} (h0 : x0 < 12) : x0 < ((12 : Nat) : Int) := by omega
theorem om_28 {x0 : Int} (h0 : x0 ≤ 12) : x0 + 1 ≤ 2147483647 := by omega
theorem om_29 {x0 : Int} {x1 : Int} (h0 : x0 ≤ 12) (h1 : x1 < x0) : x1 < ((12 : Nat) : Int) := by omega
theorem om_30 {x0 : Int} {x1 : Int} (h0 : x0 ≤ 12) (h1 : x1 < x0) : x1 + 1 ≤ 2147483647 := by omega
theorem om_31 {x0 : Int} {x1 : Int} (h0 : 0 ≤ x0) (h1 : x1 = x0 + 1) : 0 ≤ x1 := by omega
theorem om_32  : (0 : Int) ≤ 0 := by omega
theorem om_33 {x0 : Int} (h0 : 1 ≤ x0) : - 2147483648 ≤ x0 + 1 := by omega
theorem om_34 {x0 : Int} {x1 : Int} (h0 : 1 ≤ x0) (h1 : x1 = x0 + 1) : 1 ≤ x1 := by omega
theorem om_35 {x0 : Int} (h0 : 0 < x0) : - 2147483648 ≤ x0 - 1 := by omega
theorem om_36 {x0 : Int} {x1 : Int} {x2 : Int} (h0 : x0 ≤ 12) (h1 : x1 < x0) (h2 : x2 ≤ x1) : x2 - 1 ≤ 2147483647 := by omega
theorem om_37 {x0 : Int} {x1 : Int} {x2 : Int} (h0 : x0 ≤ 12) (h1 : x1 < x0) (h2 : x2 ≤ x1) : x2 < 12 := by omega
theorem om_38 {x0 : Int} {x1 : Int} (h0 : 0 < x0) (h1 : x1 = x0 - 1) : 0 ≤ x1 := by omega
theorem om_39 {x0 : Int} {x1 : Int} {x2 : Int} {x3 : Int} (h0 : x0 ≤ 12) (h1 : x1 < x0) (h2 : x2 ≤ x1) (h3 : x3 = x2 - 1) : x3 < 12 := by omega
theorem om_40 {x0 : Int} (h0 : 0 < x0) : - 2147483648 ≤ x0 + ( - 1 ) := by omega
theorem om_41 {x0 : Int} {x1 : Int} {x2 : Int} (h0 : x0 ≤ 12) (h1 : x1 < x0) (h2 : x2 ≤ x1) : x2 + ( - 1 ) ≤ 2147483647 := by omega
theorem om_42 {x0 : Int} {x1 : Int} (h0 : 0 < x0) (h1 : x1 = x0 + ( - 1 )) : 0 ≤ x1 := by omega
theorem om_43 {x0 : Int} (h0 : 0 < x0) : 0 < x0 := by omega
theorem om_44 {x0 : Int} (h0 : 1 ≤ x0) : 0 ≤ x0 := by omega
theorem om_45  : (1 : Int) ≤ 1 := by omega
theorem om_46 {x0 : Int} {x1 : Int} (h0 : x0 ≤ 12) (h1 : x1 ≤ x0) : x1 + 1 ≤ 2147483647 := by omega
theorem om_47 {x0 : Int} {x1 : Int} {x2 : Int} (h0 : x0 < x1) (h1 : x2 = x0 + 1) : x2 ≤ x1 := by omega
theorem om_48 {x0 : Int} {x1 : Int} {x2 : Int} (h0 : x0 ≤ 12) (h1 : x1 ≤ x2) (h2 : x2 ≤ x0) : x1 + 1 ≤ 2147483647 := by omega
theorem om_49 {x0 : Int} {x1 : Int} {x2 : Int} {x3 : Int} (h0 : x0 ≤ x1) (h1 : x2 = x0 + 1) (h2 : x3 = x1 + 1) : x2 ≤ x3 := by omega
theorem om_50 {x0 : Int} {x1 : Int} {x2 : Int} (h0 : x0 ≤ 12) (h1 : x1 ≤ x2) (h2 : x2 ≤ x0) : x1 ≤ 12 := by omega
theorem om_51 {x0 : Int} {x1 : Int} (h0 : x0 ≤ 12) (h1 : x1 < x0) : x1 < 12 := by omega
theorem om_52 {x0 : Int} {x1 : Int} {x2 : Int} (h0 : x0 ≤ 12) (h1 : x1 ≤ x2) (h2 : x2 < x0) : x1 < 12 := by omega
theorem om_53 {x0 : Int} (h0 : x0 ≤ 12) : x0 ≤ 12 := by omega
theorem om_54 {x0 : Int} (h0 : x0 < 319) : x0 < ((319 : Nat) : Int) := by omega
theorem om_55 {x0 : Int} {x1 : Int} (h0 : x0 + 2 ≤ x1) : x0 < x1 := by omega
theorem om_56 {x0 : Int} (h0 : x0 < 319) : x0 + 1 ≤ 2147483647 := by omega
theorem om_57 {x0 : Int} {x1 : Int} {x2 : Int} {x3 : Int} (h0 : x0 < 319) (h1 : x1 + 2 ≤ x2) (h2 : x0 + 2 * ( x2 - x1 ) - 1 ≤ 319) (h3 : x3 = x0 + 1) : x3 < ((319 : Nat) : Int) := by omega
theorem om_58 {x0 : Int} (h0 : 0 ≤ x0) : - 2147483648 ≤ 2 * x0 := by omega
theorem om_59 {x0 : Int} (h0 : x0 ≤ 160) : 2 * x0 ≤ 2147483647 := by omega
theorem om_60 {x0 : Int} {x1 : Int} (h0 : 0 ≤ x0) (h1 : x1 = 2 * x0) : - 2147483648 ≤ x1 - 1 := by omega
theorem om_61 {x0 : Int} {x1 : Int} (h0 : x0 ≤ 160) (h1 : x1 = 2 * x0) : x1 - 1 ≤ 2147483647 := by omega
theorem om_62 {x0 : Int} {x1 : Int} {x2 : Int} {x3 : Int} (h0 : x0 ≤ 160) (h1 : x1 = 2 * x0) (h2 : x2 = x1 - 1) (h3 : x3 < x2) : x3 < ((319 : Nat) : Int) := by omega
theorem om_64 {x0 : Int} {x1 : Int} {x2 : Int} {x3 : Int} (h0 : x0 ≤ 160) (h1 : x1 = 2 * x0) (h2 : x2 = x1 - 1) (h3 : x3 < x2) : x3 < 319 := by omega
theorem om_65 {x0 : Int} {x1 : Int} (h0 : x0 < 160) (h1 : x1 < x0) : x1 < ((160 : Nat) : Int) := by omega
theorem om_66 {x0 : Int} {x1 : Int} (h0 : x0 < 160) (h1 : x1 < x0) : x1 + 1 ≤ 2147483647 := by omega
theorem om_67 {x0 : Int} {x1 : Int} (h0 : x0 < x1) (h1 : x1 ≤ 160) : x0 < ((160 : Nat) : Int) := by omega
theorem om_68 {x0 : Int} (h0 : x0 ≤ 160) : x0 - 1 ≤ 2147483647 := by omega
theorem om_69 {x0 : Int} {x1 : Int} (h0 : x0 ≤ 160) (h1 : x1 ≤ x0 - 1) : x1 + 1 ≤ 2147483647 := by omega
theorem om_70 {x0 : Int} {x1 : Int} {x2 : Int} (h0 : 0 ≤ x0) (h1 : x0 ≤ x1) (h2 : x2 = x1 + 1) : 0 ≤ x2 := by omega
theorem om_71 {x0 : Int} {x1 : Int} {x2 : Int} {x3 : Int} (h0 : x0 ≤ 160) (h1 : x1 = x0 - 1) (h2 : x2 < x1) (h3 : x3 = x2 + 1) : x3 < ((160 : Nat) : Int) := by omega
theorem om_72 {x0 : Int} {x1 : Int} (h0 : x0 ≤ 160) (h1 : x1 ≤ x0 - 1) : x1 < ((160 : Nat) : Int) := by omega
theorem om_73 {x0 : Int} {x1 : Int} {x2 : Int} {x3 : Int} (h0 : x0 = x1 - 1) (h1 : x2 < x0) (h2 : x3 = x2 + 1) : x3 ≤ x1 - 1 := by omega
theorem om_74 {x0 : Int} {x1 : Int} (h0 : x0 ≤ x1 - 1) : 0 < x1 - x0 := by omega
theorem om_75 {x0 : Int} {x1 : Int} (h0 : x0 < x1) : x0 ≤ x1 - 1 := by omega
theorem om_76 {x0 : Int} (h0 : 0 ≤ x0) : - 2147483648 ≤ x0 * 6 := by omega
theorem om_77 {x0 : Int} (h0 : x0 < 319) : x0 * 6 ≤ 2147483647 := by omega
theorem om_78 {x0 : Int} {x1 : Int} {x2 : Int} (h0 : 0 ≤ x0) (h1 : x1 = x0 * 6) (h2 : 0 ≤ x2) : - 2147483648 ≤ x1 + x2 := by omega
theorem om_79 {x0 : Int} {x1 : Int} {x2 : Int} {x3 : Int} (h0 : 0 ≤ x0) (h1 : x1 = x0 * 6) (h2 : 0 ≤ x2) (h3 : x3 = x1 + x2) : 0 ≤ x3 := by omega
theorem om_80 {x0 : Int} {x1 : Int} (h0 : x0 = x1 + 1) : ( 6 - x0 ) + 1 ≤ 6 - x1 := by omega
theorem om_81  : (0 : Int) ≤ 12 := by omega
theorem om_82 {x0 : Int} {x1 : Int} {x2 : Int} (h0 : x0 < 319) (h1 : x1 = x0 * 6) (h2 : x2 < 6) : x1 + x2 ≤ 2147483647 := by omega
theorem om_83 {x0 : Int} {x1 : Int} {x2 : Int} {x3 : Int} (h0 : x0 < 319) (h1 : x1 = x0 * 6) (h2 : x2 < 6) (h3 : x3 = x1 + x2) : x3 < ((1914 : Nat) : Int) := by omega
theorem om_84 {x0 : Int} (h0 : x0 < 6) : x0 < ((12 : Nat) : Int) := by omega
theorem om_85 {x0 : Int} (h0 : x0 < 6) : x0 + 1 ≤ 2147483647 := by omega
theorem om_86 {x0 : Int} (h0 : x0 < 6) : 0 < 6 - x0 := by omega
theorem om_87 {x0 : Int} {x1 : Int} (h0 : x0 < x1) (h1 : x1 ≤ 319) : x0 < ((319 : Nat) : Int) := by omega
theorem om_88 {x0 : Int} {x1 : Int} (h0 : x0 < x1) (h1 : x1 ≤ 319) : x0 + 1 ≤ 2147483647 := by omega
theorem om_89 {x0 : Int} {x1 : Int} (h0 : x0 < x1) (h1 : x1 ≤ 319) : x0 < 319 := by omega
theorem om_90 {x0 : Int} (h0 : 0 ≤ x0) : - 2147483648 ≤ x0 - 1 := by omega
theorem om_91 {x0 : Int} (h0 : x0 ≤ 319) : x0 - 1 ≤ 2147483647 := by omega
theorem om_92 {x0 : Int} {x1 : Int} (h0 : x0 ≤ 319) (h1 : x1 < x0) : x1 < ((319 : Nat) : Int) := by omega
theorem om_93 {x0 : Int} (h0 : 0 ≤ x0) : - 2147483648 ≤ x0 + ( - 1 ) := by omega
theorem om_94 {x0 : Int} {x1 : Int} (h0 : x0 ≤ 319) (h1 : x1 < x0) : x1 + ( - 1 ) ≤ 2147483647 := by omega
theorem om_95 {x0 : Int} {x1 : Int} {x2 : Int} (h0 : x0 < x1) (h1 : x2 = x0 + ( - 1 )) : x2 < x1 := by omega
theorem om_96 {x0 : Int} {x1 : Int} (h0 : 0 ≤ x0) (h1 : x1 = x0 + ( - 1 )) : - 1 ≤ x1 := by omega
theorem om_97 {x0 : Int} {x1 : Int} (h0 : x0 = x1 + ( - 1 )) : ( x0 + 1 ) + 1 ≤ x1 + 1 := by omega
theorem om_98 {x0 : Int} (h0 : 0 ≤ x0) : 0 < x0 + 1 := by omega
theorem om_99 {x0 : Int} {x1 : Int} (h0 : x0 ≤ 319) (h1 : x1 < x0) : x1 < 319 := by omega
theorem om_100 {x0 : Int} {x1 : Int} (h0 : x0 = x1 - 1) : x0 < x1 := by omega
theorem om_101 {x0 : Int} {x1 : Int} (h0 : 0 ≤ x0) (h1 : x1 = x0 - 1) : - 1 ≤ x1 := by omega
theorem om_102 {x0 : Int} {x1 : Int} (h0 : x0 ≤ 319) (h1 : x1 < x0) : x1 + 1 ≤ 2147483647 := by omega
theorem om_103 {x0 : Int} {x1 : Int} (h0 : x0 ≤ 12) (h1 : x1 ≤ x0) : x1 ≤ 12 := by omega
theorem om_105 {x0 : Int} (h0 : x0 ≤ 160) : x0 ≤ 160 := by omega
theorem om_106 {x0 : Int} {x1 : Int} (h0 : x0 = x1 + 1) : ( 160 - x0 ) + 1 ≤ 160 - x1 := by omega
theorem om_107 {x0 : Int} (h0 : x0 < 160) : 0 < 160 - x0 := by omega
theorem om_108 {x0 : Int} (h0 : x0 < 161) : x0 < ((161 : Nat) : Int) := by omega
theorem om_109 {x0 : Int} (h0 : x0 < 161) : x0 + 1 ≤ 2147483647 := by omega
theorem om_110 {x0 : Int} {x1 : Int} (h0 : x0 = x1 + 1) : ( 161 - x0 ) + 1 ≤ 161 - x1 := by omega
theorem om_111 {x0 : Int} (h0 : x0 < 161) : 0 < 161 - x0 := by omega
theorem om_112 {x0 : Int} {x1 : Int} (h0 : x0 ≤ 160) (h1 : x1 < x0) : x1 < 160 := by omega
theorem om_113 {x0 : Int} (h0 : 0 ≤ x0) : - 2147483648 ≤ x0 + 4 := by omega
theorem om_114 {x0 : Int} (h0 : x0 ≤ 160) : x0 + 4 ≤ 2147483647 := by omega
theorem om_115 {x0 : Int} {x1 : Int} (h0 : x0 ≤ 160) (h1 : x1 = x0 + 4) (h2 : x1 ≤ 160) : x0 < 160 := by omega
theorem om_116 {x0 : Int} {x1 : Int} {x2 : Int} (h0 : x0 ≤ 160) (h1 : x1 = x0 + 4) (h2 : x1 ≤ 160) (h3 : x2 = x0 + 1) : x2 < 160 := by omega
theorem om_117 {x0 : Int} {x1 : Int} {x2 : Int} (h0 : 0 ≤ x0) (h1 : x1 = x0 + 1) (h2 : x2 = x1 + 1) : 0 ≤ x2 := by omega
theorem om_118 {x0 : Int} {x1 : Int} {x2 : Int} {x3 : Int} (h0 : x0 ≤ 160) (h1 : x1 = x0 + 4) (h2 : x1 ≤ 160) (h3 : x2 = x0 + 1) (h4 : x3 = x2 + 1) : x3 < 160 := by omega
theorem om_119 {x0 : Int} {x1 : Int} {x2 : Int} {x3 : Int} (h0 : 0 ≤ x0) (h1 : x1 = x0 + 1) (h2 : x2 = x1 + 1) (h3 : x3 = x2 + 1) : 0 ≤ x3 := by omega
theorem om_120 {x0 : Int} {x1 : Int} {x2 : Int} {x3 : Int} {x4 : Int} (h0 : x0 = x1 + 4) (h1 : x0 ≤ 160) (h2 : x2 = x1 + 1) (h3 : x3 = x2 + 1) (h4 : x4 = x3 + 1) : x4 < 160 := by omega
theorem om_121 {x0 : Int} {x1 : Int} (h0 : x0 = x1 + 1) : x1 ≤ x0 := by omega
theorem om_122 {x0 : Int} (h0 : 1 ≤ x0) : - 2147483648 ≤ x0 - 1 := by omega
theorem om_123 {x0 : Int} {x1 : Int} (h0 : x0 ≤ 160) (h1 : x1 ≤ x0) : x1 - 1 ≤ 2147483647 := by omega
theorem om_124 {x0 : Int} {x1 : Int} (h0 : x0 ≤ x1) : - 2147483648 ≤ x1 - x0 := by omega
theorem om_125 {x0 : Int} {x1 : Int} {x2 : Int} (h0 : x0 ≤ 160) (h1 : 1 ≤ x1) (h2 : x2 < x0) : x2 - x1 ≤ 2147483647 := by omega
theorem om_126 {x0 : Int} {x1 : Int} {x2 : Int} (h0 : x0 ≤ x1) (h1 : x2 = x1 - x0) : 0 ≤ x2 := by omega
theorem om_127 {x0 : Int} {x1 : Int} {x2 : Int} {x3 : Int} (h0 : 1 ≤ x0) (h1 : x1 < x2) (h2 : x3 = x1 - x0) : x3 < x2 := by omega
theorem om_130 {x0 : Int} (h0 : x0 ≤ 160) : x0 + 1 ≤ 2147483647 := by omega
theorem om_131 {x0 : Int} (h0 : - 1 ≤ x0) : - 2147483648 ≤ x0 + ( - 1 ) := by omega
theorem om_136 {x0 : Int} {x1 : Int} {x2 : Int} {x3 : Int} (h0 : x0 = x1 + 1) (h1 : x2 = x3 + ( - 1 )) : ( x2 - x0 ) + 1 ≤ x3 - x1 := by omega
theorem om_137 {x0 : Int} {x1 : Int} (h0 : x0 ≤ 160) (h1 : x1 < x0) : x1 ≤ 160 := by omega
theorem om_138 {x0 : Int} (h0 : x0 ≤ 6) : x0 + 1 ≤ 2147483647 := by omega
theorem om_139 {x0 : Int} {x1 : Int} (h0 : x0 = x1 + 1) : ( 7 - x0 ) + 1 ≤ 7 - x1 := by omega
theorem om_140 {x0 : Int} (h0 : x0 ≤ 6) : 0 < 7 - x0 := by omega
theorem om_141 {x0 : Int} {x1 : Int} {x2 : Int} (h0 : x0 ≤ 12) (h1 : x1 ≤ x0) (h2 : x2 < x1) : x2 < ((12 : Nat) : Int) := by omega
theorem om_142 {x0 : Int} {x1 : Int} {x2 : Int} (h0 : x0 ≤ 12) (h1 : x1 ≤ x0) (h2 : x2 < x1) : x2 + 1 ≤ 2147483647 := by omega
theorem om_143  : (0 : Int) < 319 := by omega
theorem om_144 {x0 : Int} {x1 : Int} (h0 : x0 ≤ 160) (h1 : x1 = x0 + 4) (h2 : x1 ≤ 160) : x0 < ((160 : Nat) : Int) := by omega
theorem om_145 {x0 : Int} {x1 : Int} {x2 : Int} (h0 : x0 ≤ 160) (h1 : x1 = x0 + 4) (h2 : x1 ≤ 160) (h3 : x2 = x0 + 1) : x2 < ((160 : Nat) : Int) := by omega
theorem om_146 {x0 : Int} (h0 : 0 ≤ x0) : - 2147483648 ≤ x0 + 2 := by omega
theorem om_147 {x0 : Int} (h0 : x0 ≤ 160) : x0 + 2 ≤ 2147483647 := by omega
theorem om_148 {x0 : Int} {x1 : Int} (h0 : 0 ≤ x0) (h1 : x1 = x0 + 2) : 0 ≤ x1 := by omega
theorem om_149 {x0 : Int} {x1 : Int} {x2 : Int} (h0 : x0 ≤ 160) (h1 : x1 = x0 + 4) (h2 : x1 ≤ 160) (h3 : x2 = x0 + 2) : x2 < ((160 : Nat) : Int) := by omega
theorem om_150 {x0 : Int} (h0 : 0 ≤ x0) : - 2147483648 ≤ x0 + 3 := by omega
theorem om_151 {x0 : Int} (h0 : x0 ≤ 160) : x0 + 3 ≤ 2147483647 := by omega
theorem om_152 {x0 : Int} {x1 : Int} (h0 : 0 ≤ x0) (h1 : x1 = x0 + 3) : 0 ≤ x1 := by omega
theorem om_153 {x0 : Int} {x1 : Int} {x2 : Int} (h0 : x0 = x1 + 4) (h1 : x0 ≤ 160) (h2 : x2 = x1 + 3) : x2 < ((160 : Nat) : Int) := by omega
theorem om_154 {x0 : Int} {x1 : Int} {x2 : Int} (h0 : x0 ≤ 160) (h1 : x1 ≤ x0) (h2 : x2 = x1 - 1) : x2 < ((160 : Nat) : Int) := by omega
theorem om_155 {x0 : Int} {x1 : Int} (h0 : x0 ≤ 160) (h1 : x1 ≤ x0) : x1 + ( - 1 ) ≤ 2147483647 := by omega
theorem om_156 {x0 : Int} {x1 : Int} {x2 : Int} (h0 : x0 ≤ 160) (h1 : x1 = x0 - 1) (h2 : x2 < x1) : x2 + 1 ≤ 2147483647 := by omega
theorem om_157 {x0 : Int} {x1 : Int} {x2 : Int} (h0 : x0 ≤ 160) (h1 : x1 = x0 - 1) (h2 : x2 < x1) : x2 < ((160 : Nat) : Int) := by omega
theorem om_158 {x0 : Int} {x1 : Int} (h0 : 1 ≤ x0) (h1 : x1 = x0 - 1) : 0 ≤ x1 := by omega
theorem om_159 {x0 : Int} {x1 : Int} (h0 : x0 ≤ 160) (h1 : x1 ≤ x0) : x1 + 1 ≤ 2147483647 := by omega
theorem om_160 {x0 : Int} {x1 : Int} {x2 : Int} (h0 : x0 = x1 + 1) : ( x2 + 1 - x0 ) + 1 ≤ x2 + 1 - x1 := by omega
theorem om_161 {x0 : Int} {x1 : Int} (h0 : x0 ≤ x1) : 0 < x1 + 1 - x0 := by omega
theorem om_162 {x0 : Int} {x1 : Int} (h0 : 0 ≤ x0) (h1 : x1 = x0 + 1) : 1 ≤ x1 := by omega
theorem om_163 {x0 : Int} (h0 : x0 < 12) : x0 + 1 ≤ 2147483647 := by omega
theorem om_164 {x0 : Int} {x1 : Int} (h0 : x0 < 12) (h1 : x1 < x0) : x1 < ((12 : Nat) : Int) := by omega
theorem om_165 {x0 : Int} {x1 : Int} (h0 : x0 < 12) (h1 : x1 < x0) : x1 + 1 ≤ 2147483647 := by omega
theorem om_166 {x0 : Int} (h0 : x0 < 324) : x0 < ((324 : Nat) : Int) := by omega
theorem om_167 {x0 : Int} (h0 : 0 ≤ x0) : - 2147483648 ≤ 6 * x0 := by omega
theorem om_168 {x0 : Int} (h0 : x0 < 324) : 6 * x0 ≤ 2147483647 := by omega
theorem om_169 {x0 : Int} {x1 : Int} (h0 : 0 ≤ x0) (h1 : x1 = 6 * x0) : 0 ≤ x1 := by omega
theorem om_170 {x0 : Int} {x1 : Int} (h0 : x0 < 324) (h1 : x1 = 6 * x0) : x1 < ((1944 : Nat) : Int) := by omega
theorem om_171 {x0 : Int} {x1 : Int} {x2 : Int} (h0 : 0 ≤ x0) (h1 : 0 ≤ x1) (h2 : x2 = 6 * x0) : - 2147483648 ≤ x2 + x1 := by omega
theorem om_172 {x0 : Int} {x1 : Int} {x2 : Int} {x3 : Int} (h0 : 0 ≤ x0) (h1 : 0 ≤ x1) (h2 : x2 = 6 * x0) (h3 : x3 = x2 + x1) : 0 ≤ x3 := by omega
theorem om_173 {x0 : Int} {x1 : Int} (h0 : x0 ≤ 320) (h1 : x1 < x0) : x1 < ((320 : Nat) : Int) := by omega
theorem om_174 {x0 : Int} {x1 : Int} (h0 : x0 ≤ 320) (h1 : x1 < x0) : x1 + 1 ≤ 2147483647 := by omega
theorem om_176 {x0 : Int} {x1 : Int} {x2 : Int} {x3 : Int} (h0 : x0 < 324) (h1 : x1 < 6) (h2 : x2 = 6 * x0) (h3 : x3 = x2 + x1) : x3 < ((1944 : Nat) : Int) := by omega
theorem om_177 {x0 : Int} {x1 : Int} {x2 : Int} (h0 : x0 ≤ 160) (h1 : x1 ≤ x2) (h2 : x2 < x0) : x1 + 1 ≤ 2147483647 := by omega
theorem om_178 {x0 : Int} {x1 : Int} {x2 : Int} (h0 : x0 ≤ 160) (h1 : x1 < x0) (h2 : x2 < x1) : x2 < ((160 : Nat) : Int) := by omega
theorem om_179 {x0 : Int} {x1 : Int} {x2 : Int} (h0 : x0 ≤ 160) (h1 : x1 < x0) (h2 : x2 < x1) : x2 + 1 ≤ 2147483647 := by omega
theorem om_180 {x0 : Int} {x1 : Int} {x2 : Int} (h0 : x0 ≤ x1) (h1 : x2 = x1 + ( - 1 )) : x0 - 1 ≤ x2 := by omega
theorem om_181 {x0 : Int} {x1 : Int} {x2 : Int} (h0 : x0 ≤ 160) (h1 : x1 ≤ x0) (h2 : x2 = x1 - 1) : x2 ≤ 160 := by omega
theorem om_182 {x0 : Int} {x1 : Int} (h0 : 1 ≤ x0) (h1 : 0 ≤ x1) : - 2147483648 ≤ x1 + x0 := by omega
theorem om_183 {x0 : Int} {x1 : Int} {x2 : Int} (h0 : x0 ≤ 160) (h1 : x1 ≤ x0) (h2 : x2 ≤ x0) : x2 + x1 ≤ 2147483647 := by omega
theorem om_184 {x0 : Int} {x1 : Int} {x2 : Int} {x3 : Int} (h0 : x0 ≤ 160) (h1 : x1 = x2 + x3) (h2 : x1 ≤ x0) : x2 + x3 ≤ 2147483647 := by omega
theorem om_185 {x0 : Int} {x1 : Int} {x2 : Int} (h0 : 1 ≤ x0) (h1 : 0 ≤ x1) (h2 : x2 = x1 + x0) : - 2147483648 ≤ x2 - 1 := by omega
theorem om_186 {x0 : Int} {x1 : Int} {x2 : Int} {x3 : Int} {x4 : Int} (h0 : x0 ≤ 160) (h1 : x1 = x2 + x3) (h2 : x1 ≤ x0) (h3 : x4 = x2 + x3) : x4 - 1 ≤ 2147483647 := by omega
theorem om_187 {x0 : Int} {x1 : Int} {x2 : Int} {x3 : Int} (h0 : 1 ≤ x0) (h1 : 0 ≤ x1) (h2 : x2 = x1 + x0) (h3 : x3 = x2 - 1) : 0 ≤ x3 := by omega
theorem om_188 {x0 : Int} {x1 : Int} {x2 : Int} {x3 : Int} {x4 : Int} {x5 : Int} (h0 : x0 ≤ 160) (h1 : x1 = x2 + x3) (h2 : x1 ≤ x0) (h3 : x4 = x2 + x3) (h4 : x5 = x4 - 1) : x5 < ((160 : Nat) : Int) := by omega
theorem om_189 {x0 : Int} {x1 : Int} {x2 : Int} {x3 : Int} (h0 : x0 ≤ 160) (h1 : 1 ≤ x1) (h2 : x2 = x3 + x1) (h3 : x2 ≤ x0) : x3 < ((160 : Nat) : Int) := by omega
theorem om_190 {x0 : Int} {x1 : Int} {x2 : Int} {x3 : Int} {x4 : Int} (h0 : 1 ≤ x0) (h1 : x1 = x2 + x0) (h2 : x1 ≤ x3) (h3 : x4 = x2 + 1) : x4 ≤ x3 := by omega
theorem om_191 {x0 : Int} {x1 : Int} {x2 : Int} {x3 : Int} (h0 : 1 ≤ x0) (h1 : x1 = x2 + x0) (h2 : x1 ≤ x3) : 0 < x3 - x2 := by omega
theorem om_192 {x0 : Int} {x1 : Int} {x2 : Int} {x3 : Int} {x4 : Int} {x5 : Int} (h0 : x0 ≤ 160) (h1 : x1 = x2 + x3) (h2 : x1 ≤ x0) (h3 : x4 = x2 + x3) (h4 : x5 < x4) : x5 < ((160 : Nat) : Int) := by omega
theorem om_193 {x0 : Int} {x1 : Int} {x2 : Int} {x3 : Int} {x4 : Int} (h0 : x0 ≤ 160) (h1 : x1 = x2 + x3) (h2 : x1 ≤ x0) (h3 : x4 = x2 + x3) : x4 ≤ 160 := by omega
theorem om_194 {x0 : Int} {x1 : Int} {x2 : Int} {x3 : Int} {x4 : Int} (h0 : x0 ≤ 160) (h1 : x1 = x2 + x3) (h2 : x1 ≤ x0) (h3 : x4 ≤ x2 + x3) : x4 + 1 ≤ 2147483647 := by omega
theorem om_195 {x0 : Int} {x1 : Int} {x2 : Int} {x3 : Int} {x4 : Int} (h0 : x0 = x1 + x2) (h1 : x3 < x0) (h2 : x4 = x3 + 1) : x4 ≤ x1 + x2 := by omega
theorem om_196 {x0 : Int} {x1 : Int} {x2 : Int} {x3 : Int} (h0 : x0 = x1 + 1) : ( x2 + x3 - x0 ) + 1 ≤ x2 + x3 - x1 := by omega
theorem om_197 {x0 : Int} {x1 : Int} {x2 : Int} {x3 : Int} (h0 : x0 = x1 + x2) (h1 : x3 < x0) : 0 < x1 + x2 - x3 := by omega
theorem om_198 {x0 : Int} {x1 : Int} (h0 : 1 ≤ x0) : x1 ≤ x1 + x0 := by omega
theorem om_199 {x0 : Int} {x1 : Int} {x2 : Int} (h0 : 0 ≤ x0) (h1 : x0 ≤ x1 - x2 + 1) : - 2147483648 ≤ x1 - x2 := by omega
theorem om_201 {x0 : Int} {x1 : Int} {x2 : Int} (h0 : x0 ≤ 12) (h1 : x1 < x0) (h2 : x2 = x1 + 1) : x2 ≤ 12 := by omega
theorem om_202 {x0 : Int} {x1 : Int} {x2 : Int} (h0 : x0 ≤ 12) (h1 : x1 ≤ 12) (h2 : x1 < x2) (h3 : x2 < x0) : x1 < 12 := by omega
theorem om_203 {x0 : Int} {x1 : Int} {x2 : Int} (h0 : x0 ≤ 12) (h1 : x1 ≤ 12) (h2 : x1 < x2) (h3 : x2 < x0) : x1 < ((12 : Nat) : Int) := by omega
theorem om_204 {x0 : Int} {x1 : Int} (h0 : 0 ≤ x0) (h1 : x0 < x1) : - 2147483648 ≤ x1 + 1 := by omega
theorem om_205 {x0 : Int} (h0 : x0 ≤ 13) : x0 + 1 ≤ 2147483647 := by omega
theorem om_206 {x0 : Int} {x1 : Int} {x2 : Int} (h0 : x0 < x1) (h1 : x2 = x1 + 1) : x0 < x2 := by omega
theorem om_207 {x0 : Int} {x1 : Int} {x2 : Int} (h0 : x0 ≤ 12) (h1 : x1 ≤ 13) (h2 : x1 < x0) (h3 : x2 = x1 + 1) : x2 ≤ 13 := by omega
theorem om_208 {x0 : Int} {x1 : Int} {x2 : Int} (h0 : 0 ≤ x0) (h1 : x0 < x1) (h2 : x2 = x1 + 1) : 0 ≤ x2 := by omega
theorem om_209 {x0 : Int} {x1 : Int} (h0 : x0 = x1 + 1) : x1 < x0 := by omega
theorem om_210 {x0 : Int} {x1 : Int} (h0 : x0 ≤ 12) (h1 : x1 = x0 + 1) : x1 ≤ 13 := by omega
theorem om_211 {x0 : Int} {x1 : Int} {x2 : Int} {x3 : Int} (h0 : x0 ≤ 6) (h1 : x1 ≤ 6) (h2 : x2 ≤ x1) (h3 : x3 ≤ x0 + x2) : x3 ≤ 12 := by omega
theorem om_212 {x0 : Int} (h0 : x0 ≤ 322) : x0 < ((324 : Nat) : Int) := by omega
theorem om_213 {x0 : Int} {x1 : Int} {x2 : Int} (h0 : x0 ≤ 6) (h1 : x1 ≤ x0) (h2 : x2 < x1) : x2 < ((12 : Nat) : Int) := by omega
theorem om_214 {x0 : Int} (h0 : x0 ≤ 322) : 6 * x0 ≤ 2147483647 := by omega
theorem om_215 {x0 : Int} {x1 : Int} {x2 : Int} (h0 : x0 ≤ 6) (h1 : x1 ≤ x0) (h2 : x2 < x1) : x2 + 1 ≤ 2147483647 := by omega
theorem om_216 {x0 : Int} (h0 : x0 ≤ 6) : x0 < ((12 : Nat) : Int) := by omega
theorem om_217 {x0 : Int} {x1 : Int} {x2 : Int} {x3 : Int} {x4 : Int} (h0 : x0 ≤ 6) (h1 : x1 ≤ 6) (h2 : x2 ≤ x1) (h3 : x3 ≤ x0 + x2) (h4 : x4 < x3) : x4 < ((12 : Nat) : Int) := by omega
theorem om_218 {x0 : Int} {x1 : Int} {x2 : Int} {x3 : Int} {x4 : Int} (h0 : x0 ≤ 6) (h1 : x1 ≤ 6) (h2 : x2 ≤ x1) (h3 : x3 ≤ x0 + x2) (h4 : x4 < x3) : x4 + 1 ≤ 2147483647 := by omega
theorem om_219 {x0 : Int} {x1 : Int} {x2 : Int} {x3 : Int} (h0 : x0 < 324) (h1 : x1 ≤ 6) (h2 : x2 ≤ x1) (h3 : x3 = 6 * x0) : x3 + x2 ≤ 2147483647 := by omega
theorem om_220 {x0 : Int} {x1 : Int} (h0 : x0 ≤ 6) (h1 : x1 ≤ x0) : x1 + 1 ≤ 2147483647 := by omega
theorem om_221 {x0 : Int} {x1 : Int} {x2 : Int} {x3 : Int} {x4 : Int} (h0 : x0 ≤ x1 + x2) (h1 : x3 ≤ x0 + 1) (h2 : x4 = x2 + 1) : x3 ≤ x1 + x4 := by omega
theorem om_223 {x0 : Int} {x1 : Int} {x2 : Int} (h0 : x0 ≤ x1) (h1 : x2 ≤ x0) : x2 ≤ x1 + 0 := by omega
theorem om_224 {x0 : Int} {x1 : Int} {x2 : Int} (h0 : x0 ≤ 6) (h1 : x1 ≤ x0) (h2 : x2 ≤ x1) : x2 < 12 := by omega
theorem om_225 {x0 : Int} {x1 : Int} {x2 : Int} {x3 : Int} (h0 : x0 ≤ x1) (h1 : x2 ≤ x0 + 1) (h2 : x3 = x1 + 1) : x2 ≤ x3 := by omega
theorem om_226 {x0 : Int} {x1 : Int} {x2 : Int} (h0 : x0 < x1) (h1 : x2 + 2 * ( x1 - x0 ) - 1 ≤ 319) : x2 + 1 ≤ 2147483647 := by omega
theorem om_227 {x0 : Int} {x1 : Int} {x2 : Int} (h0 : x0 < x1) (h1 : x2 + 2 * ( x1 - x0 ) - 1 ≤ 319) : x2 < ((320 : Nat) : Int) := by omega
theorem om_228 {x0 : Int} {x1 : Int} (h0 : x0 < x1) : - 2147483648 ≤ x1 - x0 := by omega
theorem om_229 {x0 : Int} {x1 : Int} (h0 : x0 - x1 ≤ 1) : x0 - x1 ≤ 2147483647 := by omega
theorem om_230 {x0 : Int} {x1 : Int} {x2 : Int} (h0 : x0 < x1) (h1 : x2 + 2 * ( x1 - x0 ) - 1 ≤ 319) : x2 < 324 := by omega
theorem om_231 {x0 : Int} {x1 : Int} (h0 : x0 - x1 ≤ 2) : x0 - x1 ≤ 2147483647 := by omega
theorem om_232 {x0 : Int} {x1 : Int} (h0 : 0 ≤ x0) (h1 : x0 < x1) : - 2147483648 ≤ x0 + x1 := by omega
theorem om_233 {x0 : Int} {x1 : Int} (h0 : x0 < x1) (h1 : x1 ≤ 160) : x0 + x1 ≤ 2147483647 := by omega
theorem om_234 {x0 : Int} {x1 : Int} {x2 : Int} {x3 : Int} {x4 : Int} {x5 : Int} (h0 : x0 + 2 * ( x1 - x2 ) - 1 ≤ 319) (h1 : x3 = x0 + 1) (h2 : x4 = x3 + 2 * ( x5 - x2 ) - 1) : x4 + 2 * ( x1 - x5 ) - 1 ≤ 319 := by omega
theorem om_235 {x0 : Int} {x1 : Int} (h0 : x0 - x1 ≤ 4) : x0 - x1 ≤ 2147483647 := by omega
theorem om_236 {x0 : Int} {x1 : Int} (h0 : x0 - x1 ≤ 8) : x0 - x1 ≤ 2147483647 := by omega
theorem om_237 {x0 : Int} {x1 : Int} (h0 : x0 - x1 ≤ 16) : x0 - x1 ≤ 2147483647 := by omega
theorem om_238 {x0 : Int} {x1 : Int} (h0 : x0 - x1 ≤ 32) : x0 - x1 ≤ 2147483647 := by omega
theorem om_239 {x0 : Int} {x1 : Int} (h0 : x0 - x1 ≤ 64) : x0 - x1 ≤ 2147483647 := by omega
theorem om_240 {x0 : Int} {x1 : Int} (h0 : x0 - x1 ≤ 128) : x0 - x1 ≤ 2147483647 := by omega
theorem om_241 {x0 : Int} {x1 : Int} (h0 : x0 - x1 ≤ 256) : x0 - x1 ≤ 2147483647 := by omega
theorem om_242 {x0 : Int} (h0 : x0 ≤ 160) : 0 + 2 * ( x0 - 0 ) - 1 ≤ 319 := by omega
theorem om_243 {x0 : Int} (h0 : x0 ≤ 160) : x0 - 0 ≤ 256 := by omega
theorem om_244 {x0 : Int} (h0 : 0 < x0) : 0 ≤ x0 := by omega
theorem om_245 {x0 : Int} {x1 : Int} {x2 : Int} (h0 : x0 < 324) (h1 : x1 ≤ 6) (h2 : x2 = 6 * x0) : x2 + x1 ≤ 2147483647 := by omega
theorem om_246 {x0 : Int} {x1 : Int} (h0 : x0 < 6) (h1 : x1 = x0 + 1) : x1 ≤ 6 := by omega
theorem om_247  : (0 : Int) ≤ 6 := by omega
theorem om_248 {x0 : Int} {x1 : Int} (h0 : x0 ≤ 319) (h1 : x1 ≤ x0) : x1 < ((320 : Nat) : Int) := by omega
theorem om_249 {x0 : Int} {x1 : Int} (h0 : x0 ≤ 319) (h1 : x1 ≤ x0) : x1 + 1 ≤ 2147483647 := by omega
theorem om_250 {x0 : Int} {x1 : Int} {x2 : Int} (h0 : x0 ≤ 319) (h1 : x1 ≤ x0) (h2 : x2 ≤ x1) : x2 < ((320 : Nat) : Int) := by omega
theorem om_251 {x0 : Int} {x1 : Int} {x2 : Int} (h0 : x0 ≤ 319) (h1 : x1 ≤ x0) (h2 : x2 ≤ x1) : x2 + 1 ≤ 2147483647 := by omega
theorem om_252  : (0 : Int) ≤ 320 := by omega
theorem om_253  : (320 : Int) < 324 := by omega
theorem om_254 {x0 : Int} {x1 : Int} (h0 : 1 ≤ x0) (h1 : x1 = x0 + 1) : 0 ≤ x1 := by omega
theorem om_255 {x0 : Int} (h0 : x0 ≤ 319) : x0 ≤ 320 := by omega
theorem om_256 {x0 : Int} (h0 : x0 ≤ 9) : x0 - 1 ≤ 2147483647 := by omega
theorem om_257 {x0 : Int} {x1 : Int} {x2 : Int} (h0 : x0 < x1) (h1 : x2 = x1 - 1) : - 2147483648 ≤ x2 - x0 := by omega
theorem om_258 {x0 : Int} {x1 : Int} {x2 : Int} (h0 : x0 ≤ 9) (h1 : 0 ≤ x1) (h2 : x2 = x0 - 1) : x2 - x1 ≤ 2147483647 := by omega
theorem om_259 {x0 : Int} {x1 : Int} {x2 : Int} {x3 : Int} (h0 : x0 < x1) (h1 : x2 = x1 - 1) (h2 : x3 = x2 - x0) : 0 ≤ x3 := by omega
theorem om_260 {x0 : Int} {x1 : Int} {x2 : Int} {x3 : Int} (h0 : x0 ≤ 9) (h1 : 0 ≤ x1) (h2 : x2 = x0 - 1) (h3 : x3 = x2 - x1) : x3 < ((12 : Nat) : Int) := by omega
theorem om_261 {x0 : Int} {x1 : Int} (h0 : x0 ≤ 9) (h1 : x1 ≤ x0) : x1 + 1 ≤ 2147483647 := by omega
theorem om_262 {x0 : Int} {x1 : Int} (h0 : x0 ≤ 319) (h1 : x1 ≤ x0) : x1 - 1 ≤ 2147483647 := by omega
theorem om_263 {x0 : Int} (h0 : 0 ≤ x0) : - 2147483648 ≤ 1920 + x0 := by omega
theorem om_264 {x0 : Int} {x1 : Int} (h0 : 0 ≤ x0) (h1 : x1 = 1920 + x0) : 0 ≤ x1 := by omega
theorem om_265 {x0 : Int} (h0 : x0 ≤ 0) : x0 < ((160 : Nat) : Int) := by omega
theorem om_266 {x0 : Int} {x1 : Int} {x2 : Int} {x3 : Int} (h0 : x0 ≤ x1) (h1 : x2 - x3 + x1 - x0 ≤ 160) : x2 - x3 ≤ 2147483647 := by omega
theorem om_267 {x0 : Int} {x1 : Int} {x2 : Int} {x3 : Int} {x4 : Int} (h0 : x0 ≤ x1) (h1 : 0 ≤ x2) (h2 : x2 ≤ x3) (h3 : x4 = x1 - x0) : - 2147483648 ≤ x4 + x3 := by omega
theorem om_268 {x0 : Int} {x1 : Int} {x2 : Int} {x3 : Int} {x4 : Int} (h0 : x0 ≤ x1) (h1 : x1 ≤ 160) (h2 : x2 - x3 + x1 - x0 ≤ 160) (h3 : x4 = x2 - x3) : x4 + x1 ≤ 2147483647 := by omega
theorem om_269 {x0 : Int} {x1 : Int} {x2 : Int} {x3 : Int} {x4 : Int} {x5 : Int} (h0 : x0 ≤ x1) (h1 : x2 ≤ x3) (h2 : x4 = x1 - x0) (h3 : x5 = x4 + x3) : - 2147483648 ≤ x5 - x2 := by omega
theorem om_270 {x0 : Int} {x1 : Int} {x2 : Int} {x3 : Int} {x4 : Int} {x5 : Int} (h0 : x0 - x1 + x2 - x3 ≤ 160) (h1 : x4 = x0 - x1) (h2 : x5 = x4 + x2) : x5 - x3 ≤ 2147483647 := by omega
theorem om_271 {x0 : Int} {x1 : Int} {x2 : Int} {x3 : Int} {x4 : Int} {x5 : Int} (h0 : x0 ≤ x1 - x2 + x3 - x4) (h1 : x5 = x3 + 1) : x0 ≤ x1 - x2 + x5 - x4 := by omega
theorem om_272 {x0 : Int} {x1 : Int} {x2 : Int} {x3 : Int} {x4 : Int} {x5 : Int} (h0 : x0 - x1 + x2 - x3 ≤ 160) (h1 : x4 ≤ x0 - x1 + x5 - x3) (h2 : x5 < x2) : x4 < 160 := by omega
theorem om_273 {x0 : Int} {x1 : Int} {x2 : Int} {x3 : Int} {x4 : Int} {x5 : Int} {x6 : Int} (h0 : x0 ≤ x1 - x2 + x3 - x4) (h1 : x5 = x0 + 1) (h2 : x6 = x3 + 1) : x5 ≤ x1 - x2 + x6 - x4 := by omega
theorem om_274 {x0 : Int} {x1 : Int} {x2 : Int} {x3 : Int} {x4 : Int} (h0 : x0 ≤ x1) (h1 : x2 ≤ x0 - x3) : x2 ≤ x1 - x3 + x4 - x4 := by omega
theorem om_275 {x0 : Int} {x1 : Int} {x2 : Int} {x3 : Int} (h0 : x0 ≤ x1 - x2) (h1 : x3 = x1 + 1) : x0 ≤ x3 - x2 := by omega
theorem om_276 {x0 : Int} {x1 : Int} {x2 : Int} {x3 : Int} {x4 : Int} {x5 : Int} (h0 : x0 ≤ x1) (h1 : x2 - x3 + x1 - x0 ≤ 160) (h2 : x4 ≤ x5 - x3) (h3 : x5 < x2) : x4 < 160 := by omega
theorem om_277 {x0 : Int} {x1 : Int} {x2 : Int} {x3 : Int} {x4 : Int} (h0 : x0 ≤ x1 - x2) (h1 : x3 = x0 + 1) (h2 : x4 = x1 + 1) : x3 ≤ x4 - x2 := by omega
theorem om_278 {x0 : Int}  : 0 ≤ x0 - x0 := by omega
theorem om_279  : (0 : Int) ≤ 160 := by omega
theorem om_280 {x0 : Int} (h0 : - 3 ≤ x0) : - 2147483648 ≤ x0 - 1 := by omega
theorem om_281 {x0 : Int} {x1 : Int} {x2 : Int} (h0 : x0 = x1 - x2) (h1 : x0 ≤ 64) : x1 - x2 + 0 - 0 ≤ 160 := by omega
theorem om_282 {x0 : Int} (h0 : x0 ≤ 7) : x0 + 1 ≤ 2147483647 := by omega
theorem om_283 {x0 : Int} {x1 : Int} (h0 : x0 ≤ 6) (h1 : x1 = x0 + 1) : x1 ≤ 7 := by omega
theorem om_284  : (1 : Int) ≤ 7 := by omega
theorem om_285 {x0 : Int} {x1 : Int} (h0 : x0 ≤ 319) (h1 : x1 < x0) : x1 < ((324 : Nat) : Int) := by omega
theorem om_286 {x0 : Int} {x1 : Int} (h0 : x0 ≤ 319) (h1 : x1 < x0) : x1 < ((320 : Nat) : Int) := by omega
theorem om_287 {x0 : Int} {x1 : Int} (h0 : x0 ≤ 319) (h1 : x1 < x0) : 6 * x1 ≤ 2147483647 := by omega
theorem om_288 {x0 : Int} {x1 : Int} {x2 : Int} (h0 : 0 ≤ x0) (h1 : 2 * x0 ≤ x1 - x2) : - 2147483648 ≤ x1 - x2 := by omega
theorem om_290 {x0 : Int} {x1 : Int} (h0 : 0 ≤ x0) (h1 : x1 ≤ 160) : x1 - x0 ≤ 2147483647 := by omega
theorem om_291 {x0 : Int} {x1 : Int} (h0 : x0 ≤ 160) (h1 : x1 ≤ x0) : x1 ≤ 160 := by omega
theorem om_292  : (0 : Int) < 324 := by omega
theorem om_293 {x0 : Int} {x1 : Int} (h0 : 0 ≤ x0) (h1 : x0 ≤ x1) : - 2147483648 ≤ x0 + x1 := by omega
theorem om_294 {x0 : Int} {x1 : Int} (h0 : x0 ≤ x1) (h1 : x1 ≤ 160) : x0 + x1 ≤ 2147483647 := by omega
theorem om_295 {x0 : Int} (h0 : 0 ≤ x0) : - 2147483648 ≤ 1 + x0 := by omega
theorem om_296 {x0 : Int} (h0 : x0 ≤ 1) : 1 + x0 ≤ 2147483647 := by omega
theorem om_297 {x0 : Int} (h0 : x0 ≤ 2) : 1 + x0 ≤ 2147483647 := by omega
theorem om_298 {x0 : Int} (h0 : x0 ≤ 3) : 1 + x0 ≤ 2147483647 := by omega
theorem om_299 {x0 : Int} (h0 : x0 ≤ 4) : 1 + x0 ≤ 2147483647 := by omega
theorem om_300 {x0 : Int} (h0 : x0 ≤ 5) : 1 + x0 ≤ 2147483647 := by omega
theorem om_301 {x0 : Int} (h0 : x0 ≤ 6) : 1 + x0 ≤ 2147483647 := by omega
theorem om_302 {x0 : Int} (h0 : x0 ≤ 7) : 1 + x0 ≤ 2147483647 := by omega
theorem om_303 {x0 : Int} (h0 : x0 ≤ 8) : 1 + x0 ≤ 2147483647 := by omega
theorem om_304 {x0 : Int} {x1 : Int} {x2 : Int} {x3 : Int} {x4 : Int} (h0 : 0 ≤ x0) (h1 : x1 = x0 + 1) (h2 : x2 = x1 + 1) (h3 : x3 = x2 + 1) (h4 : x4 = x3 + 1) : 0 ≤ x4 := by omega
theorem om_305 {x0 : Int} {x1 : Int} (h0 : x0 < x1) : x0 ≤ x1 := by omega
theorem om_306 {x0 : Int} {x1 : Int} {x2 : Int} {x3 : Int} (h0 : x0 ≤ x1) (h1 : x1 + x2 = x0 + x3 - 1) (h2 : - 1 ≤ x2) : 0 ≤ x3 := by omega
theorem om_307 {x0 : Int} {x1 : Int} {x2 : Int} {x3 : Int} {x4 : Int} {x5 : Int} (h0 : x0 + x1 = x2 + x3 - 1) (h1 : x4 = x0 + 1) (h2 : x5 = x1 + ( - 1 )) : x4 + x5 = x2 + x3 - 1 := by omega
theorem om_308 {x0 : Int} {x1 : Int} {x2 : Int} {x3 : Int} (h0 : x0 < x1) (h1 : x2 = x0 + 1) (h2 : x3 = x1 + ( - 1 )) : x2 ≤ x3 + 1 := by omega
theorem om_309 {x0 : Int} {x1 : Int} {x2 : Int} (h0 : x0 = x1 - 1) : x2 + x0 = x2 + x1 - 1 := by omega
theorem om_325 {x0 : Int} {x1 : Int} (h0 : x0 ≤ 13) (h1 : x1 ≤ x0) : x1 - 1 ≤ 2147483647 := by omega
theorem om_326 {x0 : Int} {x1 : Int} {x2 : Int} {x3 : Int} (h0 : x0 ≤ 12) (h1 : x1 ≤ 13) (h2 : x1 < x0) (h3 : x2 ≤ x1) (h4 : x3 = x2 - 1) : x3 < 12 := by omega
theorem om_327 {x0 : Int} {x1 : Int} (h0 : x0 ≤ 13) (h1 : x1 ≤ x0) : x1 + ( - 1 ) ≤ 2147483647 := by omega
theorem om_328  : (1 : Int) ≤ 13 := by omega
theorem om_329 {x0 : Int} {x1 : Int} {x2 : Int} {x3 : Int} (h0 : x0 < 319) (h1 : x1 ≤ 6) (h2 : x2 = x0 * 6) (h3 : x3 ≤ x1) : x2 + x3 ≤ 2147483647 := by omega
theorem om_330 {x0 : Int}  : x0 ≤ x0 + 0 := by omega
theorem om_331  : (0 : Int) < 12 := by omega
theorem om_332 {x0 : Int} {x1 : Int} (h0 : x0 ≤ 6) (h1 : x1 ≤ x0) : x1 ≤ 6 := by omega
theorem om_333 {x0 : Int} {x1 : Int} {x2 : Int} {x3 : Int} (h0 : x0 ≤ 160) (h1 : x1 = 2 * x0) (h2 : x2 = x1 - 1) (h3 : x3 ≤ x2) : x3 + 1 ≤ 2147483647 := by omega
theorem om_335 {x0 : Int} (h0 : x0 ≤ 6) : x0 ≤ 6 := by omega
theorem om_373 {x0 : Int} {x1 : Int} (h0 : x0 ≤ 319) (h1 : x1 ≤ x0) : x1 < ((324 : Nat) : Int) := by omega
theorem om_375 {x0 : Int} {x1 : Int} (h0 : x0 ≤ 319) (h1 : x1 ≤ x0) : 6 * x1 ≤ 2147483647 := by omega
theorem om_376 {x0 : Int} {x1 : Int} {x2 : Int} {x3 : Int} (h0 : x0 ≤ 319) (h1 : x1 ≤ x0) (h2 : x2 ≤ 6) (h3 : x3 = 6 * x1) : x3 + x2 ≤ 2147483647 := by omega
theorem om_377 {x0 : Int} {x1 : Int} {x2 : Int} {x3 : Int} {x4 : Int} (h0 : x0 ≤ 319) (h1 : x1 ≤ x0) (h2 : x2 ≤ 6) (h3 : x3 = 6 * x1) (h4 : x4 = x3 + x2) : x4 < ((1944 : Nat) : Int) := by omega
theorem om_378 {x0 : Int} {x1 : Int} {x2 : Int} {x3 : Int} {x4 : Int} (h0 : x0 ≤ 319) (h1 : x1 ≤ x0) (h2 : x1 < x0) (h3 : x2 ≤ 6) (h4 : x3 = 6 * x1) (h5 : x4 = x3 + x2) : x4 < ((1920 : Nat) : Int) := by omega
