def la_0 : List UInt8 := [187, 0, 8, 89, 183, 0, 26, 76, 187, 0, 27, 89, 183, 0, 29, 77, 4, 188, 11, 78, 3, 54, 4, 21, 4, 42, 190, 16, 8, 100, 163, 8]
def la_1 : List UInt8 := [216, 42, 21, 4, 46, 16, 63, 126, 170, 0, 0, 0, 0, 0, 8, 200, 0, 0, 0, 0, 0, 0, 0, 43, 0, 0, 0, 192, 0, 0, 0, 229]
def la_2 : List UInt8 := [0, 0, 0, 254, 0, 0, 1, 23, 0, 0, 1, 60, 0, 0, 1, 109, 0, 0, 1, 146, 0, 0, 1, 183, 0, 0, 1, 220, 0, 0, 1, 245]
def la_3 : List UInt8 := [0, 0, 2, 17, 0, 0, 2, 66, 0, 0, 2, 103, 0, 0, 2, 116, 0, 0, 2, 153, 0, 0, 2, 217, 0, 0, 2, 254, 0, 0, 3, 35]
def la_4 : List UInt8 := [0, 0, 3, 84, 0, 0, 3, 109, 0, 0, 3, 146, 0, 0, 3, 207, 0, 0, 4, 0, 0, 0, 4, 64, 0, 0, 4, 113, 0, 0, 4, 150]
def la_5 : List UInt8 := [0, 0, 4, 211, 0, 0, 5, 45, 0, 0, 5, 106, 0, 0, 5, 167, 0, 0, 5, 204, 0, 0, 5, 253, 0, 0, 6, 84, 0, 0, 6, 185]
def la_6 : List UInt8 := [0, 0, 6, 246, 0, 0, 7, 15, 0, 0, 7, 52, 0, 0, 7, 89, 0, 0, 7, 102, 0, 0, 7, 163, 0, 0, 7, 236, 0, 0, 8, 53]
def la_7 : List UInt8 := [0, 0, 8, 114, 0, 0, 8, 175, 43, 42, 21, 4, 4, 96, 46, 42, 21, 4, 5, 96, 46, 182, 0, 30, 87, 44, 42, 21, 4, 4, 96, 46]
def la_8 : List UInt8 := [42, 21, 4, 5, 96, 46, 182, 0, 34, 87, 167, 7, 230, 43, 42, 21, 4, 4, 96, 46, 182, 0, 35, 87, 44, 42, 21, 4, 4, 96, 46, 182]
def la_9 : List UInt8 := [0, 38, 87, 167, 7, 205, 43, 42, 21, 4, 4, 96, 46, 182, 0, 39, 87, 44, 42, 21, 4, 4, 96, 46, 182, 0, 42, 87, 167, 7, 180, 43]
def la_10 : List UInt8 := [42, 21, 4, 4, 96, 46, 42, 21, 4, 5, 96, 46, 182, 0, 43, 44, 42, 21, 4, 4, 96, 46, 42, 21, 4, 5, 96, 46, 182, 0, 46, 159]
def la_11 : List UInt8 := [7, 145, 3, 172, 43, 42, 21, 4, 4, 96, 46, 42, 21, 4, 5, 96, 46, 42, 21, 4, 6, 96, 46, 182, 0, 47, 87, 44, 42, 21, 4, 4]
def la_12 : List UInt8 := [96, 46, 42, 21, 4, 5, 96, 46, 42, 21, 4, 6, 96, 46, 182, 0, 51, 87, 167, 7, 94, 43, 42, 21, 4, 4, 96, 46, 42, 21, 4, 5]
def la_13 : List UInt8 := [96, 46, 182, 0, 52, 87, 44, 42, 21, 4, 4, 96, 46, 42, 21, 4, 5, 96, 46, 182, 0, 55, 87, 167, 7, 57, 43, 42, 21, 4, 4, 96]
def la_14 : List UInt8 := [46, 42, 21, 4, 5, 96, 46, 182, 0, 56, 87, 44, 42, 21, 4, 4, 96, 46, 42, 21, 4, 5, 96, 46, 182, 0, 59, 87, 167, 7, 20, 43]
def la_15 : List UInt8 := [42, 21, 4, 4, 96, 46, 42, 21, 4, 5, 96, 46, 182, 0, 60, 87, 44, 42, 21, 4, 4, 96, 46, 42, 21, 4, 5, 96, 46, 182, 0, 63]
def la_16 : List UInt8 := [87, 167, 6, 239, 43, 42, 21, 4, 4, 96, 46, 182, 0, 64, 87, 44, 42, 21, 4, 4, 96, 46, 182, 0, 67, 87, 167, 6, 214, 43, 42, 21]
def la_17 : List UInt8 := [4, 4, 96, 46, 45, 184, 0, 68, 54, 5, 44, 42, 21, 4, 4, 96, 46, 182, 0, 73, 54, 6, 167, 6, 186, 43, 42, 21, 4, 4, 96, 46]
def la_18 : List UInt8 := [42, 21, 4, 5, 96, 46, 42, 21, 4, 6, 96, 46, 182, 0, 74, 87, 44, 42, 21, 4, 4, 96, 46, 42, 21, 4, 5, 96, 46, 42, 21, 4]
def la_19 : List UInt8 := [6, 96, 46, 182, 0, 77, 87, 167, 6, 137, 43, 42, 21, 4, 4, 96, 46, 42, 21, 4, 5, 96, 46, 182, 0, 78, 87, 44, 42, 21, 4, 4]
def la_20 : List UInt8 := [96, 46, 42, 21, 4, 5, 96, 46, 182, 0, 81, 87, 167, 6, 100, 43, 182, 0, 82, 87, 44, 182, 0, 86, 87, 167, 6, 87, 43, 42, 21, 4]
def la_21 : List UInt8 := [4, 96, 46, 42, 21, 4, 5, 96, 46, 182, 0, 87, 87, 44, 42, 21, 4, 4, 96, 46, 42, 21, 4, 5, 96, 46, 182, 0, 90, 87, 167, 6]
def la_22 : List UInt8 := [50, 43, 42, 21, 4, 4, 96, 46, 42, 21, 4, 5, 96, 46, 42, 21, 4, 6, 96, 46, 42, 21, 4, 7, 96, 46, 45, 184, 0, 91, 54, 5]
def la_23 : List UInt8 := [44, 42, 21, 4, 4, 96, 46, 42, 21, 4, 5, 96, 46, 42, 21, 4, 6, 96, 46, 42, 21, 4, 7, 96, 46, 182, 0, 94, 54, 6, 167, 5]
def la_24 : List UInt8 := [242, 43, 42, 21, 4, 4, 96, 46, 42, 21, 4, 5, 96, 46, 182, 0, 95, 87, 44, 42, 21, 4, 4, 96, 46, 42, 21, 4, 5, 96, 46, 182]
def la_25 : List UInt8 := [0, 98, 87, 167, 5, 205, 43, 42, 21, 4, 4, 96, 46, 42, 21, 4, 5, 96, 46, 182, 0, 99, 87, 44, 42, 21, 4, 4, 96, 46, 42, 21]
def la_26 : List UInt8 := [4, 5, 96, 46, 182, 0, 102, 87, 167, 5, 168, 43, 42, 21, 4, 4, 96, 46, 42, 21, 4, 5, 96, 46, 42, 21, 4, 6, 96, 46, 182, 0]
def la_27 : List UInt8 := [103, 87, 44, 42, 21, 4, 4, 96, 46, 42, 21, 4, 5, 96, 46, 42, 21, 4, 6, 96, 46, 182, 0, 106, 87, 167, 5, 119, 43, 42, 21, 4]
def la_28 : List UInt8 := [4, 96, 46, 182, 0, 107, 87, 44, 42, 21, 4, 4, 96, 46, 182, 0, 110, 87, 167, 5, 94, 43, 42, 21, 4, 4, 96, 46, 42, 21, 4, 5]
def la_29 : List UInt8 := [96, 46, 182, 0, 111, 87, 44, 42, 21, 4, 4, 96, 46, 42, 21, 4, 5, 96, 46, 182, 0, 114, 87, 167, 5, 57, 43, 42, 21, 4, 4, 96]
def la_30 : List UInt8 := [46, 42, 21, 4, 5, 96, 46, 42, 21, 4, 6, 96, 46, 42, 21, 4, 7, 96, 46, 182, 0, 115, 87, 44, 42, 21, 4, 4, 96, 46, 42, 21]
def la_31 : List UInt8 := [4, 5, 96, 46, 42, 21, 4, 6, 96, 46, 42, 21, 4, 7, 96, 46, 182, 0, 118, 87, 167, 4, 252, 43, 42, 21, 4, 4, 96, 46, 42, 21]
def la_32 : List UInt8 := [4, 5, 96, 46, 42, 21, 4, 6, 96, 46, 182, 0, 119, 87, 44, 42, 21, 4, 4, 96, 46, 42, 21, 4, 5, 96, 46, 42, 21, 4, 6, 96]
def la_33 : List UInt8 := [46, 182, 0, 122, 87, 167, 4, 203, 43, 42, 21, 4, 4, 96, 46, 42, 21, 4, 5, 96, 46, 42, 21, 4, 6, 96, 46, 42, 21, 4, 7, 96]
def la_34 : List UInt8 := [46, 45, 184, 0, 123, 54, 5, 44, 42, 21, 4, 4, 96, 46, 42, 21, 4, 5, 96, 46, 42, 21, 4, 6, 96, 46, 42, 21, 4, 7, 96, 46]
def la_35 : List UInt8 := [182, 0, 125, 54, 6, 167, 4, 139, 43, 42, 21, 4, 4, 96, 46, 42, 21, 4, 5, 96, 46, 42, 21, 4, 6, 96, 46, 182, 0, 126, 87, 44]
def la_36 : List UInt8 := [42, 21, 4, 4, 96, 46, 42, 21, 4, 5, 96, 46, 42, 21, 4, 6, 96, 46, 182, 0, 129, 87, 167, 4, 90, 43, 42, 21, 4, 4, 96, 46]
def la_37 : List UInt8 := [42, 21, 4, 5, 96, 46, 182, 0, 130, 87, 44, 42, 21, 4, 4, 96, 46, 42, 21, 4, 5, 96, 46, 182, 0, 133, 87, 167, 4, 53, 43, 42]
def la_38 : List UInt8 := [21, 4, 4, 96, 46, 42, 21, 4, 5, 96, 46, 42, 21, 4, 6, 96, 46, 42, 21, 4, 7, 96, 46, 182, 0, 134, 87, 44, 42, 21, 4, 4]
def la_39 : List UInt8 := [96, 46, 42, 21, 4, 5, 96, 46, 42, 21, 4, 6, 96, 46, 42, 21, 4, 7, 96, 46, 182, 0, 137, 87, 167, 3, 248, 43, 42, 21, 4, 4]
def la_40 : List UInt8 := [96, 46, 42, 21, 4, 5, 96, 46, 42, 21, 4, 6, 96, 46, 42, 21, 4, 7, 96, 46, 42, 21, 4, 8, 96, 46, 42, 21, 4, 16, 6, 96]
def la_41 : List UInt8 := [46, 45, 184, 0, 138, 54, 5, 44, 42, 21, 4, 4, 96, 46, 42, 21, 4, 5, 96, 46, 42, 21, 4, 6, 96, 46, 42, 21, 4, 7, 96, 46]
def la_42 : List UInt8 := [42, 21, 4, 8, 96, 46, 42, 21, 4, 16, 6, 96, 46, 182, 0, 141, 54, 6, 167, 3, 158, 43, 42, 21, 4, 4, 96, 46, 42, 21, 4, 5]
def la_43 : List UInt8 := [96, 46, 42, 21, 4, 6, 96, 46, 42, 21, 4, 7, 96, 46, 182, 0, 142, 87, 44, 42, 21, 4, 4, 96, 46, 42, 21, 4, 5, 96, 46, 42]
def la_44 : List UInt8 := [21, 4, 6, 96, 46, 42, 21, 4, 7, 96, 46, 182, 0, 145, 87, 167, 3, 97, 43, 42, 21, 4, 4, 96, 46, 42, 21, 4, 5, 96, 46, 42]
def la_45 : List UInt8 := [21, 4, 6, 96, 46, 42, 21, 4, 7, 96, 46, 182, 0, 146, 87, 44, 42, 21, 4, 4, 96, 46, 42, 21, 4, 5, 96, 46, 42, 21, 4, 6]
def la_46 : List UInt8 := [96, 46, 42, 21, 4, 7, 96, 46, 182, 0, 149, 87, 167, 3, 36, 43, 42, 21, 4, 4, 96, 46, 42, 21, 4, 5, 96, 46, 182, 0, 150, 87]
def la_47 : List UInt8 := [44, 42, 21, 4, 4, 96, 46, 42, 21, 4, 5, 96, 46, 182, 0, 153, 87, 167, 2, 255, 43, 42, 21, 4, 4, 96, 46, 42, 21, 4, 5, 96]
def la_48 : List UInt8 := [46, 42, 21, 4, 6, 96, 46, 182, 0, 154, 87, 44, 42, 21, 4, 4, 96, 46, 42, 21, 4, 5, 96, 46, 42, 21, 4, 6, 96, 46, 182, 0]
def la_49 : List UInt8 := [157, 87, 167, 2, 206, 43, 42, 21, 4, 4, 96, 46, 42, 21, 4, 5, 96, 46, 42, 21, 4, 6, 96, 46, 42, 21, 4, 7, 96, 46, 42, 21]
def la_50 : List UInt8 := [4, 8, 96, 46, 42, 21, 4, 16, 6, 96, 46, 182, 0, 158, 87, 44, 42, 21, 4, 4, 96, 46, 42, 21, 4, 5, 96, 46, 42, 21, 4, 6]
def la_51 : List UInt8 := [96, 46, 42, 21, 4, 7, 96, 46, 42, 21, 4, 8, 96, 46, 42, 21, 4, 16, 6, 96, 46, 182, 0, 161, 87, 167, 2, 119, 43, 42, 21, 4]
def la_52 : List UInt8 := [4, 96, 46, 42, 21, 4, 5, 96, 46, 42, 21, 4, 6, 96, 46, 42, 21, 4, 7, 96, 46, 42, 21, 4, 8, 96, 46, 42, 21, 4, 16, 6]
def la_53 : List UInt8 := [96, 46, 42, 21, 4, 16, 7, 96, 46, 182, 0, 162, 87, 44, 42, 21, 4, 4, 96, 46, 42, 21, 4, 5, 96, 46, 42, 21, 4, 6, 96, 46]
def la_54 : List UInt8 := [42, 21, 4, 7, 96, 46, 42, 21, 4, 8, 96, 46, 42, 21, 4, 16, 6, 96, 46, 42, 21, 4, 16, 7, 96, 46, 182, 0, 166, 87, 167, 2]
def la_55 : List UInt8 := [18, 43, 42, 21, 4, 4, 96, 46, 42, 21, 4, 5, 96, 46, 42, 21, 4, 6, 96, 46, 42, 21, 4, 7, 96, 46, 182, 0, 167, 87, 44, 42]
def la_56 : List UInt8 := [21, 4, 4, 96, 46, 42, 21, 4, 5, 96, 46, 42, 21, 4, 6, 96, 46, 42, 21, 4, 7, 96, 46, 182, 0, 170, 87, 167, 1, 213, 43, 42]
def la_57 : List UInt8 := [21, 4, 4, 96, 46, 182, 0, 171, 87, 44, 42, 21, 4, 4, 96, 46, 182, 0, 174, 87, 167, 1, 188, 43, 42, 21, 4, 4, 96, 46, 42, 21]
def la_58 : List UInt8 := [4, 5, 96, 46, 182, 0, 175, 87, 44, 42, 21, 4, 4, 96, 46, 42, 21, 4, 5, 96, 46, 182, 0, 178, 87, 167, 1, 151, 43, 42, 21, 4]
def la_59 : List UInt8 := [4, 96, 46, 42, 21, 4, 5, 96, 46, 182, 0, 179, 87, 44, 42, 21, 4, 4, 96, 46, 42, 21, 4, 5, 96, 46, 182, 0, 182, 87, 167, 1]
def la_60 : List UInt8 := [114, 43, 182, 0, 183, 87, 44, 182, 0, 186, 87, 167, 1, 101, 43, 42, 21, 4, 4, 96, 46, 42, 21, 4, 5, 96, 46, 42, 21, 4, 6, 96]
def la_61 : List UInt8 := [46, 42, 21, 4, 7, 96, 46, 182, 0, 187, 87, 44, 42, 21, 4, 4, 96, 46, 42, 21, 4, 5, 96, 46, 42, 21, 4, 6, 96, 46, 42, 21]
def la_62 : List UInt8 := [4, 7, 96, 46, 182, 0, 190, 87, 167, 1, 40, 43, 42, 21, 4, 4, 96, 46, 42, 21, 4, 5, 96, 46, 42, 21, 4, 6, 96, 46, 42, 21]
def la_63 : List UInt8 := [4, 7, 96, 46, 42, 21, 4, 8, 96, 46, 182, 0, 191, 87, 44, 42, 21, 4, 4, 96, 46, 42, 21, 4, 5, 96, 46, 42, 21, 4, 6, 96]
def la_64 : List UInt8 := [46, 42, 21, 4, 7, 96, 46, 42, 21, 4, 8, 96, 46, 182, 0, 195, 87, 167, 0, 223, 43, 42, 21, 4, 4, 96, 46, 42, 21, 4, 5, 96]
def la_65 : List UInt8 := [46, 42, 21, 4, 6, 96, 46, 42, 21, 4, 7, 96, 46, 42, 21, 4, 8, 96, 46, 182, 0, 196, 87, 44, 42, 21, 4, 4, 96, 46, 42, 21]
def la_66 : List UInt8 := [4, 5, 96, 46, 42, 21, 4, 6, 96, 46, 42, 21, 4, 7, 96, 46, 42, 21, 4, 8, 96, 46, 182, 0, 199, 87, 167, 0, 150, 43, 42, 21]
def la_67 : List UInt8 := [4, 4, 96, 46, 42, 21, 4, 5, 96, 46, 42, 21, 4, 6, 96, 46, 42, 21, 4, 7, 96, 46, 182, 0, 200, 87, 44, 42, 21, 4, 4, 96]
def la_68 : List UInt8 := [46, 42, 21, 4, 5, 96, 46, 42, 21, 4, 6, 96, 46, 42, 21, 4, 7, 96, 46, 182, 0, 203, 87, 167, 0, 89, 43, 42, 21, 4, 4, 96]
def la_69 : List UInt8 := [46, 42, 21, 4, 5, 96, 46, 42, 21, 4, 6, 96, 46, 42, 21, 4, 7, 96, 46, 182, 0, 204, 87, 44, 42, 21, 4, 4, 96, 46, 42, 21]
def la_70 : List UInt8 := [4, 5, 96, 46, 42, 21, 4, 6, 96, 46, 42, 21, 4, 7, 96, 46, 182, 0, 207, 87, 167, 0, 28, 43, 42, 21, 4, 4, 96, 46, 182, 0]
def la_71 : List UInt8 := [208, 87, 44, 42, 21, 4, 4, 96, 46, 182, 0, 211, 87, 167, 0, 3, 132, 4, 8, 167, 247, 36, 4, 172]
abbrev lq_71 : List UInt8 := la_71
abbrev lq_70 : List UInt8 := la_70 ++ lq_71
abbrev lq_69 : List UInt8 := la_69 ++ lq_70
abbrev lq_68 : List UInt8 := la_68 ++ lq_69
abbrev lq_67 : List UInt8 := la_67 ++ lq_68
abbrev lq_66 : List UInt8 := la_66 ++ lq_67
abbrev lq_65 : List UInt8 := la_65 ++ lq_66
abbrev lq_64 : List UInt8 := la_64 ++ lq_65
abbrev lq_63 : List UInt8 := la_63 ++ lq_64
abbrev lq_62 : List UInt8 := la_62 ++ lq_63
abbrev lq_61 : List UInt8 := la_61 ++ lq_62
abbrev lq_60 : List UInt8 := la_60 ++ lq_61
abbrev lq_59 : List UInt8 := la_59 ++ lq_60
abbrev lq_58 : List UInt8 := la_58 ++ lq_59
abbrev lq_57 : List UInt8 := la_57 ++ lq_58
abbrev lq_56 : List UInt8 := la_56 ++ lq_57
abbrev lq_55 : List UInt8 := la_55 ++ lq_56
abbrev lq_54 : List UInt8 := la_54 ++ lq_55
abbrev lq_53 : List UInt8 := la_53 ++ lq_54
abbrev lq_52 : List UInt8 := la_52 ++ lq_53
abbrev lq_51 : List UInt8 := la_51 ++ lq_52
abbrev lq_50 : List UInt8 := la_50 ++ lq_51
abbrev lq_49 : List UInt8 := la_49 ++ lq_50
abbrev lq_48 : List UInt8 := la_48 ++ lq_49
abbrev lq_47 : List UInt8 := la_47 ++ lq_48
abbrev lq_46 : List UInt8 := la_46 ++ lq_47
abbrev lq_45 : List UInt8 := la_45 ++ lq_46
abbrev lq_44 : List UInt8 := la_44 ++ lq_45
abbrev lq_43 : List UInt8 := la_43 ++ lq_44
abbrev lq_42 : List UInt8 := la_42 ++ lq_43
abbrev lq_41 : List UInt8 := la_41 ++ lq_42
abbrev lq_40 : List UInt8 := la_40 ++ lq_41
abbrev lq_39 : List UInt8 := la_39 ++ lq_40
abbrev lq_38 : List UInt8 := la_38 ++ lq_39
abbrev lq_37 : List UInt8 := la_37 ++ lq_38
abbrev lq_36 : List UInt8 := la_36 ++ lq_37
abbrev lq_35 : List UInt8 := la_35 ++ lq_36
abbrev lq_34 : List UInt8 := la_34 ++ lq_35
abbrev lq_33 : List UInt8 := la_33 ++ lq_34
abbrev lq_32 : List UInt8 := la_32 ++ lq_33
abbrev lq_31 : List UInt8 := la_31 ++ lq_32
abbrev lq_30 : List UInt8 := la_30 ++ lq_31
abbrev lq_29 : List UInt8 := la_29 ++ lq_30
abbrev lq_28 : List UInt8 := la_28 ++ lq_29
abbrev lq_27 : List UInt8 := la_27 ++ lq_28
abbrev lq_26 : List UInt8 := la_26 ++ lq_27
abbrev lq_25 : List UInt8 := la_25 ++ lq_26
abbrev lq_24 : List UInt8 := la_24 ++ lq_25
abbrev lq_23 : List UInt8 := la_23 ++ lq_24
abbrev lq_22 : List UInt8 := la_22 ++ lq_23
abbrev lq_21 : List UInt8 := la_21 ++ lq_22
abbrev lq_20 : List UInt8 := la_20 ++ lq_21
abbrev lq_19 : List UInt8 := la_19 ++ lq_20
abbrev lq_18 : List UInt8 := la_18 ++ lq_19
abbrev lq_17 : List UInt8 := la_17 ++ lq_18
abbrev lq_16 : List UInt8 := la_16 ++ lq_17
abbrev lq_15 : List UInt8 := la_15 ++ lq_16
abbrev lq_14 : List UInt8 := la_14 ++ lq_15
abbrev lq_13 : List UInt8 := la_13 ++ lq_14
abbrev lq_12 : List UInt8 := la_12 ++ lq_13
abbrev lq_11 : List UInt8 := la_11 ++ lq_12
abbrev lq_10 : List UInt8 := la_10 ++ lq_11
abbrev lq_9 : List UInt8 := la_9 ++ lq_10
abbrev lq_8 : List UInt8 := la_8 ++ lq_9
abbrev lq_7 : List UInt8 := la_7 ++ lq_8
abbrev lq_6 : List UInt8 := la_6 ++ lq_7
abbrev lq_5 : List UInt8 := la_5 ++ lq_6
abbrev lq_4 : List UInt8 := la_4 ++ lq_5
abbrev lq_3 : List UInt8 := la_3 ++ lq_4
abbrev lq_2 : List UInt8 := la_2 ++ lq_3
abbrev lq_1 : List UInt8 := la_1 ++ lq_2
abbrev lq_0 : List UInt8 := la_0 ++ lq_1
theorem lq_eq : cL_law.data.toList = lq_0 := by decide +kernel
theorem lp_0 (j : Nat) (b : UInt8) (h : lq_0[j]? = some b) : dk_at cL_law (0 + j) b.toNat := by
  rw [Nat.zero_add]
  exact dk_lst lq_eq h
theorem lp_1 (j : Nat) (b : UInt8) (h : lq_1[j]? = some b) : dk_at cL_law (32 + j) b.toNat := by
  have q := lp_0 (32 + j) b (lcA rfl h)
  rw [← Nat.add_assoc] at q
  exact q
theorem lp_2 (j : Nat) (b : UInt8) (h : lq_2[j]? = some b) : dk_at cL_law (64 + j) b.toNat := by
  have q := lp_1 (32 + j) b (lcA rfl h)
  rw [← Nat.add_assoc] at q
  exact q
theorem lp_3 (j : Nat) (b : UInt8) (h : lq_3[j]? = some b) : dk_at cL_law (96 + j) b.toNat := by
  have q := lp_2 (32 + j) b (lcA rfl h)
  rw [← Nat.add_assoc] at q
  exact q
theorem lp_4 (j : Nat) (b : UInt8) (h : lq_4[j]? = some b) : dk_at cL_law (128 + j) b.toNat := by
  have q := lp_3 (32 + j) b (lcA rfl h)
  rw [← Nat.add_assoc] at q
  exact q
theorem lp_5 (j : Nat) (b : UInt8) (h : lq_5[j]? = some b) : dk_at cL_law (160 + j) b.toNat := by
  have q := lp_4 (32 + j) b (lcA rfl h)
  rw [← Nat.add_assoc] at q
  exact q
theorem lp_6 (j : Nat) (b : UInt8) (h : lq_6[j]? = some b) : dk_at cL_law (192 + j) b.toNat := by
  have q := lp_5 (32 + j) b (lcA rfl h)
  rw [← Nat.add_assoc] at q
  exact q
theorem lp_7 (j : Nat) (b : UInt8) (h : lq_7[j]? = some b) : dk_at cL_law (224 + j) b.toNat := by
  have q := lp_6 (32 + j) b (lcA rfl h)
  rw [← Nat.add_assoc] at q
  exact q
theorem lp_8 (j : Nat) (b : UInt8) (h : lq_8[j]? = some b) : dk_at cL_law (256 + j) b.toNat := by
  have q := lp_7 (32 + j) b (lcA rfl h)
  rw [← Nat.add_assoc] at q
  exact q
theorem lp_9 (j : Nat) (b : UInt8) (h : lq_9[j]? = some b) : dk_at cL_law (288 + j) b.toNat := by
  have q := lp_8 (32 + j) b (lcA rfl h)
  rw [← Nat.add_assoc] at q
  exact q
theorem lp_10 (j : Nat) (b : UInt8) (h : lq_10[j]? = some b) : dk_at cL_law (320 + j) b.toNat := by
  have q := lp_9 (32 + j) b (lcA rfl h)
  rw [← Nat.add_assoc] at q
  exact q
theorem lp_11 (j : Nat) (b : UInt8) (h : lq_11[j]? = some b) : dk_at cL_law (352 + j) b.toNat := by
  have q := lp_10 (32 + j) b (lcA rfl h)
  rw [← Nat.add_assoc] at q
  exact q
theorem lp_12 (j : Nat) (b : UInt8) (h : lq_12[j]? = some b) : dk_at cL_law (384 + j) b.toNat := by
  have q := lp_11 (32 + j) b (lcA rfl h)
  rw [← Nat.add_assoc] at q
  exact q
theorem lp_13 (j : Nat) (b : UInt8) (h : lq_13[j]? = some b) : dk_at cL_law (416 + j) b.toNat := by
  have q := lp_12 (32 + j) b (lcA rfl h)
  rw [← Nat.add_assoc] at q
  exact q
theorem lp_14 (j : Nat) (b : UInt8) (h : lq_14[j]? = some b) : dk_at cL_law (448 + j) b.toNat := by
  have q := lp_13 (32 + j) b (lcA rfl h)
  rw [← Nat.add_assoc] at q
  exact q
theorem lp_15 (j : Nat) (b : UInt8) (h : lq_15[j]? = some b) : dk_at cL_law (480 + j) b.toNat := by
  have q := lp_14 (32 + j) b (lcA rfl h)
  rw [← Nat.add_assoc] at q
  exact q
theorem lp_16 (j : Nat) (b : UInt8) (h : lq_16[j]? = some b) : dk_at cL_law (512 + j) b.toNat := by
  have q := lp_15 (32 + j) b (lcA rfl h)
  rw [← Nat.add_assoc] at q
  exact q
theorem lp_17 (j : Nat) (b : UInt8) (h : lq_17[j]? = some b) : dk_at cL_law (544 + j) b.toNat := by
  have q := lp_16 (32 + j) b (lcA rfl h)
  rw [← Nat.add_assoc] at q
  exact q
theorem lp_18 (j : Nat) (b : UInt8) (h : lq_18[j]? = some b) : dk_at cL_law (576 + j) b.toNat := by
  have q := lp_17 (32 + j) b (lcA rfl h)
  rw [← Nat.add_assoc] at q
  exact q
theorem lp_19 (j : Nat) (b : UInt8) (h : lq_19[j]? = some b) : dk_at cL_law (608 + j) b.toNat := by
  have q := lp_18 (32 + j) b (lcA rfl h)
  rw [← Nat.add_assoc] at q
  exact q
theorem lp_20 (j : Nat) (b : UInt8) (h : lq_20[j]? = some b) : dk_at cL_law (640 + j) b.toNat := by
  have q := lp_19 (32 + j) b (lcA rfl h)
  rw [← Nat.add_assoc] at q
  exact q
theorem lp_21 (j : Nat) (b : UInt8) (h : lq_21[j]? = some b) : dk_at cL_law (672 + j) b.toNat := by
  have q := lp_20 (32 + j) b (lcA rfl h)
  rw [← Nat.add_assoc] at q
  exact q
theorem lp_22 (j : Nat) (b : UInt8) (h : lq_22[j]? = some b) : dk_at cL_law (704 + j) b.toNat := by
  have q := lp_21 (32 + j) b (lcA rfl h)
  rw [← Nat.add_assoc] at q
  exact q
theorem lp_23 (j : Nat) (b : UInt8) (h : lq_23[j]? = some b) : dk_at cL_law (736 + j) b.toNat := by
  have q := lp_22 (32 + j) b (lcA rfl h)
  rw [← Nat.add_assoc] at q
  exact q
theorem lp_24 (j : Nat) (b : UInt8) (h : lq_24[j]? = some b) : dk_at cL_law (768 + j) b.toNat := by
  have q := lp_23 (32 + j) b (lcA rfl h)
  rw [← Nat.add_assoc] at q
  exact q
theorem lp_25 (j : Nat) (b : UInt8) (h : lq_25[j]? = some b) : dk_at cL_law (800 + j) b.toNat := by
  have q := lp_24 (32 + j) b (lcA rfl h)
  rw [← Nat.add_assoc] at q
  exact q
theorem lp_26 (j : Nat) (b : UInt8) (h : lq_26[j]? = some b) : dk_at cL_law (832 + j) b.toNat := by
  have q := lp_25 (32 + j) b (lcA rfl h)
  rw [← Nat.add_assoc] at q
  exact q
theorem lp_27 (j : Nat) (b : UInt8) (h : lq_27[j]? = some b) : dk_at cL_law (864 + j) b.toNat := by
  have q := lp_26 (32 + j) b (lcA rfl h)
  rw [← Nat.add_assoc] at q
  exact q
theorem lp_28 (j : Nat) (b : UInt8) (h : lq_28[j]? = some b) : dk_at cL_law (896 + j) b.toNat := by
  have q := lp_27 (32 + j) b (lcA rfl h)
  rw [← Nat.add_assoc] at q
  exact q
theorem lp_29 (j : Nat) (b : UInt8) (h : lq_29[j]? = some b) : dk_at cL_law (928 + j) b.toNat := by
  have q := lp_28 (32 + j) b (lcA rfl h)
  rw [← Nat.add_assoc] at q
  exact q
theorem lp_30 (j : Nat) (b : UInt8) (h : lq_30[j]? = some b) : dk_at cL_law (960 + j) b.toNat := by
  have q := lp_29 (32 + j) b (lcA rfl h)
  rw [← Nat.add_assoc] at q
  exact q
theorem lp_31 (j : Nat) (b : UInt8) (h : lq_31[j]? = some b) : dk_at cL_law (992 + j) b.toNat := by
  have q := lp_30 (32 + j) b (lcA rfl h)
  rw [← Nat.add_assoc] at q
  exact q
theorem lp_32 (j : Nat) (b : UInt8) (h : lq_32[j]? = some b) : dk_at cL_law (1024 + j) b.toNat := by
  have q := lp_31 (32 + j) b (lcA rfl h)
  rw [← Nat.add_assoc] at q
  exact q
theorem lp_33 (j : Nat) (b : UInt8) (h : lq_33[j]? = some b) : dk_at cL_law (1056 + j) b.toNat := by
  have q := lp_32 (32 + j) b (lcA rfl h)
  rw [← Nat.add_assoc] at q
  exact q
theorem lp_34 (j : Nat) (b : UInt8) (h : lq_34[j]? = some b) : dk_at cL_law (1088 + j) b.toNat := by
  have q := lp_33 (32 + j) b (lcA rfl h)
  rw [← Nat.add_assoc] at q
  exact q
theorem lp_35 (j : Nat) (b : UInt8) (h : lq_35[j]? = some b) : dk_at cL_law (1120 + j) b.toNat := by
  have q := lp_34 (32 + j) b (lcA rfl h)
  rw [← Nat.add_assoc] at q
  exact q
theorem lp_36 (j : Nat) (b : UInt8) (h : lq_36[j]? = some b) : dk_at cL_law (1152 + j) b.toNat := by
  have q := lp_35 (32 + j) b (lcA rfl h)
  rw [← Nat.add_assoc] at q
  exact q
theorem lp_37 (j : Nat) (b : UInt8) (h : lq_37[j]? = some b) : dk_at cL_law (1184 + j) b.toNat := by
  have q := lp_36 (32 + j) b (lcA rfl h)
  rw [← Nat.add_assoc] at q
  exact q
theorem lp_38 (j : Nat) (b : UInt8) (h : lq_38[j]? = some b) : dk_at cL_law (1216 + j) b.toNat := by
  have q := lp_37 (32 + j) b (lcA rfl h)
  rw [← Nat.add_assoc] at q
  exact q
theorem lp_39 (j : Nat) (b : UInt8) (h : lq_39[j]? = some b) : dk_at cL_law (1248 + j) b.toNat := by
  have q := lp_38 (32 + j) b (lcA rfl h)
  rw [← Nat.add_assoc] at q
  exact q
theorem lp_40 (j : Nat) (b : UInt8) (h : lq_40[j]? = some b) : dk_at cL_law (1280 + j) b.toNat := by
  have q := lp_39 (32 + j) b (lcA rfl h)
  rw [← Nat.add_assoc] at q
  exact q
theorem lp_41 (j : Nat) (b : UInt8) (h : lq_41[j]? = some b) : dk_at cL_law (1312 + j) b.toNat := by
  have q := lp_40 (32 + j) b (lcA rfl h)
  rw [← Nat.add_assoc] at q
  exact q
theorem lp_42 (j : Nat) (b : UInt8) (h : lq_42[j]? = some b) : dk_at cL_law (1344 + j) b.toNat := by
  have q := lp_41 (32 + j) b (lcA rfl h)
  rw [← Nat.add_assoc] at q
  exact q
theorem lp_43 (j : Nat) (b : UInt8) (h : lq_43[j]? = some b) : dk_at cL_law (1376 + j) b.toNat := by
  have q := lp_42 (32 + j) b (lcA rfl h)
  rw [← Nat.add_assoc] at q
  exact q
theorem lp_44 (j : Nat) (b : UInt8) (h : lq_44[j]? = some b) : dk_at cL_law (1408 + j) b.toNat := by
  have q := lp_43 (32 + j) b (lcA rfl h)
  rw [← Nat.add_assoc] at q
  exact q
theorem lp_45 (j : Nat) (b : UInt8) (h : lq_45[j]? = some b) : dk_at cL_law (1440 + j) b.toNat := by
  have q := lp_44 (32 + j) b (lcA rfl h)
  rw [← Nat.add_assoc] at q
  exact q
theorem lp_46 (j : Nat) (b : UInt8) (h : lq_46[j]? = some b) : dk_at cL_law (1472 + j) b.toNat := by
  have q := lp_45 (32 + j) b (lcA rfl h)
  rw [← Nat.add_assoc] at q
  exact q
theorem lp_47 (j : Nat) (b : UInt8) (h : lq_47[j]? = some b) : dk_at cL_law (1504 + j) b.toNat := by
  have q := lp_46 (32 + j) b (lcA rfl h)
  rw [← Nat.add_assoc] at q
  exact q
theorem lp_48 (j : Nat) (b : UInt8) (h : lq_48[j]? = some b) : dk_at cL_law (1536 + j) b.toNat := by
  have q := lp_47 (32 + j) b (lcA rfl h)
  rw [← Nat.add_assoc] at q
  exact q
theorem lp_49 (j : Nat) (b : UInt8) (h : lq_49[j]? = some b) : dk_at cL_law (1568 + j) b.toNat := by
  have q := lp_48 (32 + j) b (lcA rfl h)
  rw [← Nat.add_assoc] at q
  exact q
theorem lp_50 (j : Nat) (b : UInt8) (h : lq_50[j]? = some b) : dk_at cL_law (1600 + j) b.toNat := by
  have q := lp_49 (32 + j) b (lcA rfl h)
  rw [← Nat.add_assoc] at q
  exact q
theorem lp_51 (j : Nat) (b : UInt8) (h : lq_51[j]? = some b) : dk_at cL_law (1632 + j) b.toNat := by
  have q := lp_50 (32 + j) b (lcA rfl h)
  rw [← Nat.add_assoc] at q
  exact q
theorem lp_52 (j : Nat) (b : UInt8) (h : lq_52[j]? = some b) : dk_at cL_law (1664 + j) b.toNat := by
  have q := lp_51 (32 + j) b (lcA rfl h)
  rw [← Nat.add_assoc] at q
  exact q
theorem lp_53 (j : Nat) (b : UInt8) (h : lq_53[j]? = some b) : dk_at cL_law (1696 + j) b.toNat := by
  have q := lp_52 (32 + j) b (lcA rfl h)
  rw [← Nat.add_assoc] at q
  exact q
theorem lp_54 (j : Nat) (b : UInt8) (h : lq_54[j]? = some b) : dk_at cL_law (1728 + j) b.toNat := by
  have q := lp_53 (32 + j) b (lcA rfl h)
  rw [← Nat.add_assoc] at q
  exact q
theorem lp_55 (j : Nat) (b : UInt8) (h : lq_55[j]? = some b) : dk_at cL_law (1760 + j) b.toNat := by
  have q := lp_54 (32 + j) b (lcA rfl h)
  rw [← Nat.add_assoc] at q
  exact q
theorem lp_56 (j : Nat) (b : UInt8) (h : lq_56[j]? = some b) : dk_at cL_law (1792 + j) b.toNat := by
  have q := lp_55 (32 + j) b (lcA rfl h)
  rw [← Nat.add_assoc] at q
  exact q
theorem lp_57 (j : Nat) (b : UInt8) (h : lq_57[j]? = some b) : dk_at cL_law (1824 + j) b.toNat := by
  have q := lp_56 (32 + j) b (lcA rfl h)
  rw [← Nat.add_assoc] at q
  exact q
theorem lp_58 (j : Nat) (b : UInt8) (h : lq_58[j]? = some b) : dk_at cL_law (1856 + j) b.toNat := by
  have q := lp_57 (32 + j) b (lcA rfl h)
  rw [← Nat.add_assoc] at q
  exact q
theorem lp_59 (j : Nat) (b : UInt8) (h : lq_59[j]? = some b) : dk_at cL_law (1888 + j) b.toNat := by
  have q := lp_58 (32 + j) b (lcA rfl h)
  rw [← Nat.add_assoc] at q
  exact q
theorem lp_60 (j : Nat) (b : UInt8) (h : lq_60[j]? = some b) : dk_at cL_law (1920 + j) b.toNat := by
  have q := lp_59 (32 + j) b (lcA rfl h)
  rw [← Nat.add_assoc] at q
  exact q
theorem lp_61 (j : Nat) (b : UInt8) (h : lq_61[j]? = some b) : dk_at cL_law (1952 + j) b.toNat := by
  have q := lp_60 (32 + j) b (lcA rfl h)
  rw [← Nat.add_assoc] at q
  exact q
theorem lp_62 (j : Nat) (b : UInt8) (h : lq_62[j]? = some b) : dk_at cL_law (1984 + j) b.toNat := by
  have q := lp_61 (32 + j) b (lcA rfl h)
  rw [← Nat.add_assoc] at q
  exact q
theorem lp_63 (j : Nat) (b : UInt8) (h : lq_63[j]? = some b) : dk_at cL_law (2016 + j) b.toNat := by
  have q := lp_62 (32 + j) b (lcA rfl h)
  rw [← Nat.add_assoc] at q
  exact q
theorem lp_64 (j : Nat) (b : UInt8) (h : lq_64[j]? = some b) : dk_at cL_law (2048 + j) b.toNat := by
  have q := lp_63 (32 + j) b (lcA rfl h)
  rw [← Nat.add_assoc] at q
  exact q
theorem lp_65 (j : Nat) (b : UInt8) (h : lq_65[j]? = some b) : dk_at cL_law (2080 + j) b.toNat := by
  have q := lp_64 (32 + j) b (lcA rfl h)
  rw [← Nat.add_assoc] at q
  exact q
theorem lp_66 (j : Nat) (b : UInt8) (h : lq_66[j]? = some b) : dk_at cL_law (2112 + j) b.toNat := by
  have q := lp_65 (32 + j) b (lcA rfl h)
  rw [← Nat.add_assoc] at q
  exact q
theorem lp_67 (j : Nat) (b : UInt8) (h : lq_67[j]? = some b) : dk_at cL_law (2144 + j) b.toNat := by
  have q := lp_66 (32 + j) b (lcA rfl h)
  rw [← Nat.add_assoc] at q
  exact q
theorem lp_68 (j : Nat) (b : UInt8) (h : lq_68[j]? = some b) : dk_at cL_law (2176 + j) b.toNat := by
  have q := lp_67 (32 + j) b (lcA rfl h)
  rw [← Nat.add_assoc] at q
  exact q
theorem lp_69 (j : Nat) (b : UInt8) (h : lq_69[j]? = some b) : dk_at cL_law (2208 + j) b.toNat := by
  have q := lp_68 (32 + j) b (lcA rfl h)
  rw [← Nat.add_assoc] at q
  exact q
theorem lp_70 (j : Nat) (b : UInt8) (h : lq_70[j]? = some b) : dk_at cL_law (2240 + j) b.toNat := by
  have q := lp_69 (32 + j) b (lcA rfl h)
  rw [← Nat.add_assoc] at q
  exact q
theorem lp_71 (j : Nat) (b : UInt8) (h : lq_71[j]? = some b) : dk_at cL_law (2272 + j) b.toNat := by
  have q := lp_70 (32 + j) b (lcA rfl h)
  rw [← Nat.add_assoc] at q
  exact q
theorem dB_0 {j : Nat} {b : UInt8} (h : la_0[j]? = some b) : dk_at cL_law (0 + j) b.toNat := lp_0 j b (lcB h)
theorem dB_1 {j : Nat} {b : UInt8} (h : la_1[j]? = some b) : dk_at cL_law (32 + j) b.toNat := lp_1 j b (lcB h)
theorem dB_2 {j : Nat} {b : UInt8} (h : la_2[j]? = some b) : dk_at cL_law (64 + j) b.toNat := lp_2 j b (lcB h)
theorem dB_3 {j : Nat} {b : UInt8} (h : la_3[j]? = some b) : dk_at cL_law (96 + j) b.toNat := lp_3 j b (lcB h)
theorem dB_4 {j : Nat} {b : UInt8} (h : la_4[j]? = some b) : dk_at cL_law (128 + j) b.toNat := lp_4 j b (lcB h)
theorem dB_5 {j : Nat} {b : UInt8} (h : la_5[j]? = some b) : dk_at cL_law (160 + j) b.toNat := lp_5 j b (lcB h)
theorem dB_6 {j : Nat} {b : UInt8} (h : la_6[j]? = some b) : dk_at cL_law (192 + j) b.toNat := lp_6 j b (lcB h)
theorem dB_7 {j : Nat} {b : UInt8} (h : la_7[j]? = some b) : dk_at cL_law (224 + j) b.toNat := lp_7 j b (lcB h)
theorem dB_8 {j : Nat} {b : UInt8} (h : la_8[j]? = some b) : dk_at cL_law (256 + j) b.toNat := lp_8 j b (lcB h)
theorem dB_9 {j : Nat} {b : UInt8} (h : la_9[j]? = some b) : dk_at cL_law (288 + j) b.toNat := lp_9 j b (lcB h)
theorem dB_10 {j : Nat} {b : UInt8} (h : la_10[j]? = some b) : dk_at cL_law (320 + j) b.toNat := lp_10 j b (lcB h)
theorem dB_11 {j : Nat} {b : UInt8} (h : la_11[j]? = some b) : dk_at cL_law (352 + j) b.toNat := lp_11 j b (lcB h)
theorem dB_12 {j : Nat} {b : UInt8} (h : la_12[j]? = some b) : dk_at cL_law (384 + j) b.toNat := lp_12 j b (lcB h)
theorem dB_13 {j : Nat} {b : UInt8} (h : la_13[j]? = some b) : dk_at cL_law (416 + j) b.toNat := lp_13 j b (lcB h)
theorem dB_14 {j : Nat} {b : UInt8} (h : la_14[j]? = some b) : dk_at cL_law (448 + j) b.toNat := lp_14 j b (lcB h)
theorem dB_15 {j : Nat} {b : UInt8} (h : la_15[j]? = some b) : dk_at cL_law (480 + j) b.toNat := lp_15 j b (lcB h)
theorem dB_16 {j : Nat} {b : UInt8} (h : la_16[j]? = some b) : dk_at cL_law (512 + j) b.toNat := lp_16 j b (lcB h)
theorem dB_17 {j : Nat} {b : UInt8} (h : la_17[j]? = some b) : dk_at cL_law (544 + j) b.toNat := lp_17 j b (lcB h)
theorem dB_18 {j : Nat} {b : UInt8} (h : la_18[j]? = some b) : dk_at cL_law (576 + j) b.toNat := lp_18 j b (lcB h)
theorem dB_19 {j : Nat} {b : UInt8} (h : la_19[j]? = some b) : dk_at cL_law (608 + j) b.toNat := lp_19 j b (lcB h)
theorem dB_20 {j : Nat} {b : UInt8} (h : la_20[j]? = some b) : dk_at cL_law (640 + j) b.toNat := lp_20 j b (lcB h)
theorem dB_21 {j : Nat} {b : UInt8} (h : la_21[j]? = some b) : dk_at cL_law (672 + j) b.toNat := lp_21 j b (lcB h)
theorem dB_22 {j : Nat} {b : UInt8} (h : la_22[j]? = some b) : dk_at cL_law (704 + j) b.toNat := lp_22 j b (lcB h)
theorem dB_23 {j : Nat} {b : UInt8} (h : la_23[j]? = some b) : dk_at cL_law (736 + j) b.toNat := lp_23 j b (lcB h)
theorem dB_24 {j : Nat} {b : UInt8} (h : la_24[j]? = some b) : dk_at cL_law (768 + j) b.toNat := lp_24 j b (lcB h)
theorem dB_25 {j : Nat} {b : UInt8} (h : la_25[j]? = some b) : dk_at cL_law (800 + j) b.toNat := lp_25 j b (lcB h)
theorem dB_26 {j : Nat} {b : UInt8} (h : la_26[j]? = some b) : dk_at cL_law (832 + j) b.toNat := lp_26 j b (lcB h)
theorem dB_27 {j : Nat} {b : UInt8} (h : la_27[j]? = some b) : dk_at cL_law (864 + j) b.toNat := lp_27 j b (lcB h)
theorem dB_28 {j : Nat} {b : UInt8} (h : la_28[j]? = some b) : dk_at cL_law (896 + j) b.toNat := lp_28 j b (lcB h)
theorem dB_29 {j : Nat} {b : UInt8} (h : la_29[j]? = some b) : dk_at cL_law (928 + j) b.toNat := lp_29 j b (lcB h)
theorem dB_30 {j : Nat} {b : UInt8} (h : la_30[j]? = some b) : dk_at cL_law (960 + j) b.toNat := lp_30 j b (lcB h)
theorem dB_31 {j : Nat} {b : UInt8} (h : la_31[j]? = some b) : dk_at cL_law (992 + j) b.toNat := lp_31 j b (lcB h)
theorem dB_32 {j : Nat} {b : UInt8} (h : la_32[j]? = some b) : dk_at cL_law (1024 + j) b.toNat := lp_32 j b (lcB h)
theorem dB_33 {j : Nat} {b : UInt8} (h : la_33[j]? = some b) : dk_at cL_law (1056 + j) b.toNat := lp_33 j b (lcB h)
theorem dB_34 {j : Nat} {b : UInt8} (h : la_34[j]? = some b) : dk_at cL_law (1088 + j) b.toNat := lp_34 j b (lcB h)
theorem dB_35 {j : Nat} {b : UInt8} (h : la_35[j]? = some b) : dk_at cL_law (1120 + j) b.toNat := lp_35 j b (lcB h)
theorem dB_36 {j : Nat} {b : UInt8} (h : la_36[j]? = some b) : dk_at cL_law (1152 + j) b.toNat := lp_36 j b (lcB h)
theorem dB_37 {j : Nat} {b : UInt8} (h : la_37[j]? = some b) : dk_at cL_law (1184 + j) b.toNat := lp_37 j b (lcB h)
theorem dB_38 {j : Nat} {b : UInt8} (h : la_38[j]? = some b) : dk_at cL_law (1216 + j) b.toNat := lp_38 j b (lcB h)
theorem dB_39 {j : Nat} {b : UInt8} (h : la_39[j]? = some b) : dk_at cL_law (1248 + j) b.toNat := lp_39 j b (lcB h)
theorem dB_40 {j : Nat} {b : UInt8} (h : la_40[j]? = some b) : dk_at cL_law (1280 + j) b.toNat := lp_40 j b (lcB h)
theorem dB_41 {j : Nat} {b : UInt8} (h : la_41[j]? = some b) : dk_at cL_law (1312 + j) b.toNat := lp_41 j b (lcB h)
theorem dB_42 {j : Nat} {b : UInt8} (h : la_42[j]? = some b) : dk_at cL_law (1344 + j) b.toNat := lp_42 j b (lcB h)
theorem dB_43 {j : Nat} {b : UInt8} (h : la_43[j]? = some b) : dk_at cL_law (1376 + j) b.toNat := lp_43 j b (lcB h)
theorem dB_44 {j : Nat} {b : UInt8} (h : la_44[j]? = some b) : dk_at cL_law (1408 + j) b.toNat := lp_44 j b (lcB h)
theorem dB_45 {j : Nat} {b : UInt8} (h : la_45[j]? = some b) : dk_at cL_law (1440 + j) b.toNat := lp_45 j b (lcB h)
theorem dB_46 {j : Nat} {b : UInt8} (h : la_46[j]? = some b) : dk_at cL_law (1472 + j) b.toNat := lp_46 j b (lcB h)
theorem dB_47 {j : Nat} {b : UInt8} (h : la_47[j]? = some b) : dk_at cL_law (1504 + j) b.toNat := lp_47 j b (lcB h)
theorem dB_48 {j : Nat} {b : UInt8} (h : la_48[j]? = some b) : dk_at cL_law (1536 + j) b.toNat := lp_48 j b (lcB h)
theorem dB_49 {j : Nat} {b : UInt8} (h : la_49[j]? = some b) : dk_at cL_law (1568 + j) b.toNat := lp_49 j b (lcB h)
theorem dB_50 {j : Nat} {b : UInt8} (h : la_50[j]? = some b) : dk_at cL_law (1600 + j) b.toNat := lp_50 j b (lcB h)
theorem dB_51 {j : Nat} {b : UInt8} (h : la_51[j]? = some b) : dk_at cL_law (1632 + j) b.toNat := lp_51 j b (lcB h)
theorem dB_52 {j : Nat} {b : UInt8} (h : la_52[j]? = some b) : dk_at cL_law (1664 + j) b.toNat := lp_52 j b (lcB h)
theorem dB_53 {j : Nat} {b : UInt8} (h : la_53[j]? = some b) : dk_at cL_law (1696 + j) b.toNat := lp_53 j b (lcB h)
theorem dB_54 {j : Nat} {b : UInt8} (h : la_54[j]? = some b) : dk_at cL_law (1728 + j) b.toNat := lp_54 j b (lcB h)
theorem dB_55 {j : Nat} {b : UInt8} (h : la_55[j]? = some b) : dk_at cL_law (1760 + j) b.toNat := lp_55 j b (lcB h)
theorem dB_56 {j : Nat} {b : UInt8} (h : la_56[j]? = some b) : dk_at cL_law (1792 + j) b.toNat := lp_56 j b (lcB h)
theorem dB_57 {j : Nat} {b : UInt8} (h : la_57[j]? = some b) : dk_at cL_law (1824 + j) b.toNat := lp_57 j b (lcB h)
theorem dB_58 {j : Nat} {b : UInt8} (h : la_58[j]? = some b) : dk_at cL_law (1856 + j) b.toNat := lp_58 j b (lcB h)
theorem dB_59 {j : Nat} {b : UInt8} (h : la_59[j]? = some b) : dk_at cL_law (1888 + j) b.toNat := lp_59 j b (lcB h)
theorem dB_60 {j : Nat} {b : UInt8} (h : la_60[j]? = some b) : dk_at cL_law (1920 + j) b.toNat := lp_60 j b (lcB h)
theorem dB_61 {j : Nat} {b : UInt8} (h : la_61[j]? = some b) : dk_at cL_law (1952 + j) b.toNat := lp_61 j b (lcB h)
theorem dB_62 {j : Nat} {b : UInt8} (h : la_62[j]? = some b) : dk_at cL_law (1984 + j) b.toNat := lp_62 j b (lcB h)
theorem dB_63 {j : Nat} {b : UInt8} (h : la_63[j]? = some b) : dk_at cL_law (2016 + j) b.toNat := lp_63 j b (lcB h)
theorem dB_64 {j : Nat} {b : UInt8} (h : la_64[j]? = some b) : dk_at cL_law (2048 + j) b.toNat := lp_64 j b (lcB h)
theorem dB_65 {j : Nat} {b : UInt8} (h : la_65[j]? = some b) : dk_at cL_law (2080 + j) b.toNat := lp_65 j b (lcB h)
theorem dB_66 {j : Nat} {b : UInt8} (h : la_66[j]? = some b) : dk_at cL_law (2112 + j) b.toNat := lp_66 j b (lcB h)
theorem dB_67 {j : Nat} {b : UInt8} (h : la_67[j]? = some b) : dk_at cL_law (2144 + j) b.toNat := lp_67 j b (lcB h)
theorem dB_68 {j : Nat} {b : UInt8} (h : la_68[j]? = some b) : dk_at cL_law (2176 + j) b.toNat := lp_68 j b (lcB h)
theorem dB_69 {j : Nat} {b : UInt8} (h : la_69[j]? = some b) : dk_at cL_law (2208 + j) b.toNat := lp_69 j b (lcB h)
theorem dB_70 {j : Nat} {b : UInt8} (h : la_70[j]? = some b) : dk_at cL_law (2240 + j) b.toNat := lp_70 j b (lcB h)
theorem dB_71 {j : Nat} {b : UInt8} (h : la_71[j]? = some b) : dk_at cL_law (2272 + j) b.toNat := lp_71 j b h
