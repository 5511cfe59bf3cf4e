set_option maxRecDepth 20000 in
theorem ggL_law_X4_majorities : GoodIn wsL_law wsX4_majorities := goodIn_r _ [799, 24, 16, 93, 386, 387, 388, 23, 389, 390, 61, 391, 392, 393, 15, 394, 38, 744, 745, 746, 747, 62, 748, 749, 750, 751, 752, 753, 754, 755, 756, 757, 758, 759, 760, 761, 906, 907, 908, 909, 910, 911, 912, 913, 914, 945, 946, 958, 959, 960, 961] (by decide +kernel) (by decide +kernel)
set_option maxRecDepth 20000 in
theorem gL_law_X4_majorities : GoodIn wsL_law (wsV RL 186 RX4 yX4_majorities wsX4_majorities) := goodIn_app (goodIn_of _ (by decide +kernel)) ggL_law_X4_majorities
set_option maxRecDepth 20000 in
theorem ggL_law_X5_majorities : GoodIn wsL_law wsX5_majorities := goodIn_r _ [803, 103, 104, 775, 776, 777, 5, 778, 67, 87, 779, 780, 781, 782, 88, 783, 784, 785, 786, 787, 915, 916, 917, 918, 919, 920, 921, 922, 923, 924, 925, 926, 927, 928, 929, 930, 931, 932, 933, 934, 935, 936, 937, 938, 939, 940, 941, 942, 943, 944] (by decide +kernel) (by decide +kernel)
set_option maxRecDepth 20000 in
theorem gL_law_X5_majorities : GoodIn wsL_law (wsV RL 189 RX5 yX5_majorities wsX5_majorities) := goodIn_app (goodIn_of _ (by decide +kernel)) ggL_law_X5_majorities
set_option maxRecDepth 20000 in
theorem ggL_law_X4_windows : GoodIn wsL_law wsX4_windows := goodIn_r _ [807, 16, 93, 326, 216, 31, 599, 600, 2, 601, 808, 809, 810, 811, 24, 386, 387, 388, 23, 389, 390, 61, 391, 392, 393, 15, 394, 38, 744, 745, 746, 747, 62, 748, 749, 750, 751, 752, 753, 770, 754, 755, 756, 757, 812, 813, 814, 815, 816, 817, 818, 819, 820, 663, 614, 615, 821, 822, 823, 824, 906, 907, 908, 909, 910, 911, 912, 913, 914, 945, 946, 958, 959, 960, 961] (by decide +kernel) (by decide +kernel)
set_option maxRecDepth 20000 in
theorem gL_law_X4_windows : GoodIn wsL_law (wsV RL 190 RX4 yX4_windows wsX4_windows) := goodIn_app (goodIn_of _ (by decide +kernel)) ggL_law_X4_windows
set_option maxRecDepth 20000 in
theorem ggL_law_X5_windows : GoodIn wsL_law wsX5_windows := goodIn_r _ [828, 103, 104, 337, 67, 113, 114, 5, 115, 621, 622, 623, 829, 830, 831, 832, 369, 370, 371, 372, 833, 834, 835, 836, 915, 916, 917, 918, 919, 920, 921, 922, 923, 924, 925, 926, 927, 928, 929, 930, 931, 932, 933, 934, 935, 936, 937, 938, 939, 940, 941, 942, 943, 944] (by decide +kernel) (by decide +kernel)
set_option maxRecDepth 20000 in
theorem gL_law_X5_windows : GoodIn wsL_law (wsV RL 193 RX5 yX5_windows wsX5_windows) := goodIn_app (goodIn_of _ (by decide +kernel)) ggL_law_X5_windows
set_option maxRecDepth 20000 in
theorem ggL_law_X4_needs : GoodIn wsL_law wsX4_needs := goodIn_r _ [840, 16, 303, 304, 209, 305, 132, 133, 2, 134, 270, 271, 272, 15, 273, 98, 599, 600, 601, 841, 842, 843, 361, 362, 363, 364, 38, 906, 907, 908, 909, 910, 911, 912, 913, 914, 945, 946] (by decide +kernel) (by decide +kernel)
set_option maxRecDepth 20000 in
theorem gL_law_X4_needs : GoodIn wsL_law (wsV RL 194 RX4 yX4_needs wsX4_needs) := goodIn_app (goodIn_of _ (by decide +kernel)) ggL_law_X4_needs
set_option maxRecDepth 20000 in
theorem ggL_law_X5_needs : GoodIn wsL_law wsX5_needs := goodIn_r _ [847, 103, 225, 226, 5, 227, 113, 114, 115, 278, 279, 280, 281, 104, 621, 622, 623, 369, 370, 371, 372, 67, 915, 916, 917, 918, 919, 920, 921, 922, 923, 924, 925, 926, 927, 928, 929, 930, 931, 932, 933, 934, 935, 936, 937, 938, 939, 940, 941, 942, 943, 944] (by decide +kernel) (by decide +kernel)
set_option maxRecDepth 20000 in
theorem gL_law_X5_needs : GoodIn wsL_law (wsV RL 198 RX5 yX5_needs wsX5_needs) := goodIn_app (goodIn_of _ (by decide +kernel)) ggL_law_X5_needs
set_option maxRecDepth 20000 in
theorem ggL_law_X4_spares : GoodIn wsL_law wsX4_spares := goodIn_r _ [851, 16, 303, 304, 209, 305, 132, 133, 2, 134, 270, 271, 272, 15, 273, 98, 599, 600, 601, 361, 362, 363, 364, 38, 841, 842, 843, 906, 907, 908, 909, 910, 911, 912, 913, 914, 945, 946] (by decide +kernel) (by decide +kernel)
set_option maxRecDepth 20000 in
theorem gL_law_X4_spares : GoodIn wsL_law (wsV RL 199 RX4 yX4_spares wsX4_spares) := goodIn_app (goodIn_of _ (by decide +kernel)) ggL_law_X4_spares
set_option maxRecDepth 20000 in
theorem ggL_law_X5_spares : GoodIn wsL_law wsX5_spares := goodIn_r _ [855, 103, 225, 226, 5, 227, 113, 114, 115, 278, 279, 280, 281, 104, 621, 622, 623, 369, 370, 371, 372, 67, 915, 916, 917, 918, 919, 920, 921, 922, 923, 924, 925, 926, 927, 928, 929, 930, 931, 932, 933, 934, 935, 936, 937, 938, 939, 940, 941, 942, 943, 944] (by decide +kernel) (by decide +kernel)
set_option maxRecDepth 20000 in
theorem gL_law_X5_spares : GoodIn wsL_law (wsV RL 202 RX5 yX5_spares wsX5_spares) := goodIn_app (goodIn_of _ (by decide +kernel)) ggL_law_X5_spares
set_option maxRecDepth 20000 in
theorem ggL_law_X4_would : GoodIn wsL_law wsX4_would := goodIn_r _ [859, 16, 326, 216, 128, 129, 130, 15, 131, 98, 132, 133, 2, 134, 270, 271, 272, 273, 676, 677, 678, 679, 331, 38, 680, 362, 363, 364, 614, 615, 906, 907, 908, 909, 910, 911, 912, 913, 914, 945, 946] (by decide +kernel) (by decide +kernel)
set_option maxRecDepth 20000 in
theorem gL_law_X4_would : GoodIn wsL_law (wsV RL 203 RX4 yX4_would wsX4_would) := goodIn_app (goodIn_of _ (by decide +kernel)) ggL_law_X4_would
set_option maxRecDepth 20000 in
theorem ggL_law_X5_would : GoodIn wsL_law wsX5_would := goodIn_r _ [863, 103, 337, 67, 221, 222, 223, 5, 224, 104, 113, 114, 115, 225, 226, 227, 278, 279, 280, 281, 685, 686, 687, 688, 369, 370, 371, 372, 915, 916, 917, 918, 919, 920, 921, 922, 923, 924, 925, 926, 927, 928, 929, 930, 931, 932, 933, 934, 935, 936, 937, 938, 939, 940, 941, 942, 943, 944] (by decide +kernel) (by decide +kernel)
set_option maxRecDepth 20000 in
theorem gL_law_X5_would : GoodIn wsL_law (wsV RL 206 RX5 yX5_would wsX5_would) := goodIn_app (goodIn_of _ (by decide +kernel)) ggL_law_X5_would
set_option maxRecDepth 20000 in
theorem ggL_law_X4_swings : GoodIn wsL_law wsX4_swings := goodIn_r _ [867, 16, 270, 271, 272, 15, 273, 98, 132, 133, 2, 134, 135, 136, 137, 138, 34, 20, 33, 139, 93, 140, 141, 142, 19, 143, 52, 144, 145, 45, 46, 146, 147, 148, 149, 150, 151, 152, 153, 154, 155, 156, 157, 158, 159, 160, 161, 44, 162, 163, 164, 165, 166, 27, 167, 168, 169, 170, 171, 172, 173, 174, 56, 57, 175, 176, 177, 178, 47, 50, 51, 179, 48, 180, 181, 182, 183, 184, 185, 186, 187, 188, 189, 190, 191, 192, 193, 194, 195, 196, 197, 198, 199, 200, 201, 202, 203, 204, 205, 206, 207, 208, 209, 210, 49, 211, 868, 869, 870, 871, 216, 28, 429, 430, 431, 432, 540, 541, 542, 543, 906, 907, 908, 909, 910, 911, 912, 913, 914, 945, 946, 947, 948, 949, 950, 951, 952, 953, 954, 955, 956, 957, 962, 963, 964, 965, 966] (by decide +kernel) (by decide +kernel)
set_option maxRecDepth 20000 in
theorem gL_law_X4_swings : GoodIn wsL_law (wsV RL 207 RX4 yX4_swings wsX4_swings) := goodIn_app (goodIn_of _ (by decide +kernel)) ggL_law_X4_swings
set_option maxRecDepth 20000 in
theorem ggL_law_X5_swings : GoodIn wsL_law wsX5_swings := goodIn_r _ [875, 103, 67, 68, 278, 279, 280, 5, 281, 104, 225, 226, 227, 113, 114, 115, 233, 234, 235, 236, 232, 237, 238, 239, 240, 76, 77, 241, 242, 243, 244, 69, 70, 71, 72, 73, 245, 246, 247, 248, 249, 75, 74, 250, 251, 252, 253, 254, 255, 256, 257, 258, 259, 260, 261, 560, 561, 562, 563, 915, 916, 917, 918, 919, 920, 921, 922, 923, 924, 925, 926, 927, 928, 929, 930, 931, 932, 933, 934, 935, 936, 937, 938, 939, 940, 941, 942, 943, 944] (by decide +kernel) (by decide +kernel)
set_option maxRecDepth 20000 in
theorem gL_law_X5_swings : GoodIn wsL_law (wsV RL 210 RX5 yX5_swings wsX5_swings) := goodIn_app (goodIn_of _ (by decide +kernel)) ggL_law_X5_swings
set_option maxRecDepth 20000 in
theorem ggL_law_X4_told : GoodIn wsL_law wsX4_told := goodIn_r _ [879, 16, 93, 33, 507, 441, 135, 136, 137, 2, 138, 34, 20, 139, 140, 141, 142, 19, 143, 52, 144, 145, 45, 46, 146, 147, 148, 149, 150, 151, 152, 153, 154, 155, 156, 157, 158, 159, 160, 161, 44, 162, 163, 164, 165, 166, 27, 167, 168, 169, 170, 171, 172, 173, 174, 56, 57, 175, 176, 177, 178, 47, 50, 51, 179, 48, 180, 181, 182, 183, 184, 185, 186, 187, 188, 189, 190, 191, 192, 193, 194, 195, 196, 197, 198, 199, 200, 201, 202, 203, 204, 205, 206, 207, 208, 209, 210, 49, 211, 880, 881, 882, 883, 884, 885, 677, 678, 15, 679, 331, 38, 680, 362, 363, 364, 614, 615, 886, 887, 888, 889, 890, 891, 892, 893, 906, 907, 908, 909, 910, 911, 912, 913, 914, 945, 946, 947, 948, 949, 950, 951, 952, 953, 954, 955, 956, 957, 962, 963, 964, 965, 966] (by decide +kernel) (by decide +kernel)
set_option maxRecDepth 20000 in
theorem gL_law_X4_told : GoodIn wsL_law (wsV RL 211 RX4 yX4_told wsX4_told) := goodIn_app (goodIn_of _ (by decide +kernel)) ggL_law_X4_told
set_option maxRecDepth 20000 in
theorem ggL_law_X5_told : GoodIn wsL_law wsX5_told := goodIn_r _ [897, 103, 68, 104, 232, 70, 233, 234, 235, 5, 236, 237, 238, 239, 240, 76, 77, 67, 241, 242, 243, 244, 69, 71, 72, 73, 245, 246, 247, 248, 249, 75, 74, 250, 251, 252, 253, 254, 255, 256, 257, 258, 259, 260, 261, 898, 899, 900, 901, 337, 685, 686, 687, 688, 369, 370, 371, 372, 902, 903, 904, 905, 915, 916, 917, 918, 919, 920, 921, 922, 923, 924, 925, 926, 927, 928, 929, 930, 931, 932, 933, 934, 935, 936, 937, 938, 939, 940, 941, 942, 943, 944] (by decide +kernel) (by decide +kernel)
set_option maxRecDepth 20000 in
theorem gL_law_X5_told : GoodIn wsL_law (wsV RL 214 RX5 yX5_told wsX5_told) := goodIn_app (goodIn_of _ (by decide +kernel)) ggL_law_X5_told
