set_option maxRecDepth 20000 in
theorem ggL_law_X4_failed : GoodIn wsL_law wsX4_failed := goodIn_r _ [650, 16, 28, 533, 270, 271, 272, 15, 273, 98, 599, 600, 2, 601, 602, 603, 604, 605, 33, 135, 136, 137, 138, 34, 20, 139, 93, 140, 141, 142, 19, 143, 52, 144, 145, 45, 46, 146, 147, 148, 149, 150, 151, 152, 153, 154, 155, 156, 157, 158, 159, 160, 161, 44, 162, 163, 164, 165, 166, 27, 167, 168, 169, 170, 171, 172, 173, 174, 56, 57, 175, 176, 177, 178, 47, 50, 51, 179, 48, 180, 181, 182, 183, 184, 185, 186, 187, 188, 189, 190, 191, 192, 193, 194, 195, 196, 197, 198, 199, 200, 201, 202, 203, 204, 205, 206, 207, 208, 209, 210, 49, 211, 535, 536, 537, 538, 539, 509, 510, 511, 606, 607, 608, 609, 428, 427, 361, 362, 363, 364, 38, 610, 611, 612, 613, 614, 615, 906, 907, 908, 909, 910, 911, 912, 913, 914, 962, 963, 964, 965, 966, 945, 946, 947, 948, 949, 950, 951, 952, 953, 954, 955, 956, 957] (by decide +kernel) (by decide +kernel)
set_option maxRecDepth 20000 in
theorem gL_law_X4_failed : GoodIn wsL_law (wsV RL 145 RX4 yX4_failed wsX4_failed) := goodIn_app (goodIn_of _ (by decide +kernel)) ggL_law_X4_failed
set_option maxRecDepth 20000 in
theorem ggL_law_X5_failed : GoodIn wsL_law wsX5_failed := goodIn_r _ [654, 103, 69, 72, 278, 279, 280, 5, 281, 104, 621, 622, 623, 113, 114, 115, 624, 625, 626, 627, 68, 548, 549, 550, 551, 233, 234, 235, 236, 232, 237, 238, 239, 240, 76, 77, 67, 241, 242, 243, 244, 70, 71, 73, 245, 246, 247, 248, 249, 75, 74, 250, 251, 252, 253, 254, 255, 256, 257, 258, 259, 260, 261, 552, 553, 554, 555, 78, 516, 517, 518, 519, 520, 556, 557, 558, 559, 369, 370, 371, 372, 915, 916, 917, 918, 919, 920, 921, 922, 923, 924, 925, 926, 927, 928, 929, 930, 931, 932, 933, 934, 935, 936, 937, 938, 939, 940, 941, 942, 943, 944] (by decide +kernel) (by decide +kernel)
set_option maxRecDepth 20000 in
theorem gL_law_X5_failed : GoodIn wsL_law (wsV RL 148 RX5 yX5_failed wsX5_failed) := goodIn_app (goodIn_of _ (by decide +kernel)) ggL_law_X5_failed
set_option maxRecDepth 20000 in
theorem ggL_law_X4_least : GoodIn wsL_law wsX4_least := goodIn_r _ [658, 16, 33, 139, 270, 271, 272, 15, 273, 98, 599, 600, 2, 601, 659, 660, 661, 662, 216, 361, 362, 363, 364, 38, 663, 614, 615, 135, 136, 137, 138, 34, 20, 93, 140, 141, 142, 19, 143, 52, 144, 145, 45, 46, 146, 147, 148, 149, 150, 151, 152, 153, 154, 155, 156, 157, 158, 159, 160, 161, 44, 162, 163, 164, 165, 166, 27, 167, 168, 169, 170, 171, 172, 173, 174, 56, 57, 175, 176, 177, 178, 47, 50, 51, 179, 48, 180, 181, 182, 183, 184, 185, 186, 187, 188, 189, 190, 191, 192, 193, 194, 195, 196, 197, 198, 199, 200, 201, 202, 203, 204, 205, 206, 207, 208, 209, 210, 49, 211, 664, 665, 666, 667, 28, 533, 427, 535, 536, 537, 538, 539, 509, 510, 511, 906, 907, 908, 909, 910, 911, 912, 913, 914, 947, 948, 949, 950, 951, 952, 953, 954, 955, 956, 957, 945, 946, 962, 963, 964, 965, 966] (by decide +kernel) (by decide +kernel)
set_option maxRecDepth 20000 in
theorem gL_law_X4_least : GoodIn wsL_law (wsV RL 149 RX4 yX4_least wsX4_least) := goodIn_app (goodIn_of _ (by decide +kernel)) ggL_law_X4_least
set_option maxRecDepth 20000 in
theorem ggL_law_X5_least : GoodIn wsL_law wsX5_least := goodIn_r _ [671, 103, 620, 84, 278, 279, 280, 5, 281, 104, 621, 622, 623, 113, 114, 115, 628, 629, 630, 631, 67, 369, 370, 371, 372, 632, 633, 634, 635, 85, 233, 234, 235, 236, 232, 237, 238, 239, 240, 76, 77, 241, 242, 243, 244, 69, 70, 71, 72, 73, 245, 246, 247, 248, 249, 75, 74, 250, 251, 252, 253, 254, 255, 256, 257, 258, 259, 260, 261, 552, 553, 554, 555, 78, 516, 517, 518, 519, 520, 556, 557, 558, 559, 486, 487, 488, 489, 915, 916, 917, 918, 919, 920, 921, 922, 923, 924, 925, 926, 927, 928, 929, 930, 931, 932, 933, 934, 935, 936, 937, 938, 939, 940, 941, 942, 943, 944] (by decide +kernel) (by decide +kernel)
set_option maxRecDepth 20000 in
theorem gL_law_X5_least : GoodIn wsL_law (wsV RL 152 RX5 yX5_least wsX5_least) := goodIn_app (goodIn_of _ (by decide +kernel)) ggL_law_X5_least
set_option maxRecDepth 20000 in
theorem ggL_law_X4_majority : GoodIn wsL_law wsX4_majority := goodIn_r _ [675, 16, 326, 270, 271, 272, 15, 273, 98, 676, 677, 678, 679, 331, 38, 680, 362, 363, 364, 614, 2, 615, 906, 907, 908, 909, 910, 911, 912, 913, 914, 945, 946] (by decide +kernel) (by decide +kernel)
set_option maxRecDepth 20000 in
theorem gL_law_X4_majority : GoodIn wsL_law (wsV RL 153 RX4 yX4_majority wsX4_majority) := goodIn_app (goodIn_of _ (by decide +kernel)) ggL_law_X4_majority
set_option maxRecDepth 20000 in
theorem ggL_law_X5_majority : GoodIn wsL_law wsX5_majority := goodIn_r _ [684, 103, 337, 278, 279, 280, 5, 281, 104, 685, 686, 687, 688, 67, 369, 370, 371, 372, 915, 916, 917, 918, 919, 920, 921, 922, 923, 924, 925, 926, 927, 928, 929, 930, 931, 932, 933, 934, 935, 936, 937, 938, 939, 940, 941, 942, 943, 944] (by decide +kernel) (by decide +kernel)
set_option maxRecDepth 20000 in
theorem gL_law_X5_majority : GoodIn wsL_law (wsV RL 156 RX5 yX5_majority wsX5_majority) := goodIn_app (goodIn_of _ (by decide +kernel)) ggL_law_X5_majority
set_option maxRecDepth 20000 in
theorem ggL_law_X4_margin : GoodIn wsL_law wsX4_margin := goodIn_r _ [692, 16, 326, 132, 133, 2, 134, 270, 271, 272, 15, 273, 98, 361, 362, 363, 364, 38, 906, 907, 908, 909, 910, 911, 912, 913, 914, 945, 946] (by decide +kernel) (by decide +kernel)
set_option maxRecDepth 20000 in
theorem gL_law_X4_margin : GoodIn wsL_law (wsV RL 157 RX4 yX4_margin wsX4_margin) := goodIn_app (goodIn_of _ (by decide +kernel)) ggL_law_X4_margin
set_option maxRecDepth 20000 in
theorem ggL_law_X5_margin : GoodIn wsL_law wsX5_margin := goodIn_r _ [696, 103, 337, 225, 226, 5, 227, 113, 114, 115, 278, 279, 280, 281, 104, 369, 370, 371, 372, 67, 915, 916, 917, 918, 919, 920, 921, 922, 923, 924, 925, 926, 927, 928, 929, 930, 931, 932, 933, 934, 935, 936, 937, 938, 939, 940, 941, 942, 943, 944] (by decide +kernel) (by decide +kernel)
set_option maxRecDepth 20000 in
theorem gL_law_X5_margin : GoodIn wsL_law (wsV RL 160 RX5 yX5_margin wsX5_margin) := goodIn_app (goodIn_of _ (by decide +kernel)) ggL_law_X5_margin
set_option maxRecDepth 20000 in
theorem ggL_law_X4_both : GoodIn wsL_law wsX4_both := goodIn_r _ [700, 28, 533, 701, 702, 703, 2, 704, 16, 270, 271, 272, 15, 273, 98, 599, 600, 601, 602, 603, 604, 605, 33, 135, 136, 137, 138, 34, 20, 139, 93, 140, 141, 142, 19, 143, 52, 144, 145, 45, 46, 146, 147, 148, 149, 150, 151, 152, 153, 154, 155, 156, 157, 158, 159, 160, 161, 44, 162, 163, 164, 165, 166, 27, 167, 168, 169, 170, 171, 172, 173, 174, 56, 57, 175, 176, 177, 178, 47, 50, 51, 179, 48, 180, 181, 182, 183, 184, 185, 186, 187, 188, 189, 190, 191, 192, 193, 194, 195, 196, 197, 198, 199, 200, 201, 202, 203, 204, 205, 206, 207, 208, 209, 210, 49, 211, 705, 706, 707, 708, 302, 29, 303, 304, 305, 427, 428, 535, 536, 537, 538, 539, 509, 510, 511, 709, 710, 711, 712, 713, 714, 361, 362, 363, 364, 38, 610, 611, 612, 613, 614, 615, 906, 907, 908, 909, 910, 911, 912, 913, 914, 962, 963, 964, 965, 966, 945, 946, 947, 948, 949, 950, 951, 952, 953, 954, 955, 956, 957] (by decide +kernel) (by decide +kernel)
set_option maxRecDepth 20000 in
theorem gL_law_X4_both : GoodIn wsL_law (wsV RL 161 RX4 yX4_both wsX4_both) := goodIn_app (goodIn_of _ (by decide +kernel)) ggL_law_X4_both
set_option maxRecDepth 20000 in
theorem ggL_law_X5_both : GoodIn wsL_law wsX5_both := goodIn_r _ [718, 103, 620, 278, 279, 280, 5, 281, 104, 621, 622, 623, 113, 114, 115, 624, 625, 626, 627, 68, 628, 629, 630, 631, 67, 369, 370, 371, 372, 632, 633, 634, 635, 85, 84, 915, 916, 917, 918, 919, 920, 921, 922, 923, 924, 925, 926, 927, 928, 929, 930, 931, 932, 933, 934, 935, 936, 937, 938, 939, 940, 941, 942, 943, 944] (by decide +kernel) (by decide +kernel)
set_option maxRecDepth 20000 in
theorem gL_law_X5_both : GoodIn wsL_law (wsV RL 164 RX5 yX5_both wsX5_both) := goodIn_app (goodIn_of _ (by decide +kernel)) ggL_law_X5_both
set_option maxRecDepth 20000 in
theorem ggL_law_X4_bothAt : GoodIn wsL_law wsX4_bothAt := goodIn_r _ [722, 326, 28, 533, 427, 701, 702, 703, 2, 704, 16, 270, 271, 272, 15, 273, 98, 599, 600, 601, 602, 603, 604, 605, 33, 135, 136, 137, 138, 34, 20, 139, 93, 140, 141, 142, 19, 143, 52, 144, 145, 45, 46, 146, 147, 148, 149, 150, 151, 152, 153, 154, 155, 156, 157, 158, 159, 160, 161, 44, 162, 163, 164, 165, 166, 27, 167, 168, 169, 170, 171, 172, 173, 174, 56, 57, 175, 176, 177, 178, 47, 50, 51, 179, 48, 180, 181, 182, 183, 184, 185, 186, 187, 188, 189, 190, 191, 192, 193, 194, 195, 196, 197, 198, 199, 200, 201, 202, 203, 204, 205, 206, 207, 208, 209, 210, 49, 211, 705, 706, 707, 708, 302, 29, 303, 304, 305, 428, 535, 536, 537, 538, 539, 509, 510, 511, 709, 710, 711, 712, 713, 714, 361, 362, 363, 364, 38, 610, 611, 612, 613, 614, 615, 906, 907, 908, 909, 910, 911, 912, 913, 914, 962, 963, 964, 965, 966, 945, 946, 947, 948, 949, 950, 951, 952, 953, 954, 955, 956, 957] (by decide +kernel) (by decide +kernel)
set_option maxRecDepth 20000 in
theorem gL_law_X4_bothAt : GoodIn wsL_law (wsV RL 165 RX4 yX4_bothAt wsX4_bothAt) := goodIn_app (goodIn_of _ (by decide +kernel)) ggL_law_X4_bothAt
set_option maxRecDepth 20000 in
theorem ggL_law_X5_bothAt : GoodIn wsL_law wsX5_bothAt := goodIn_r _ [726, 84, 337, 727, 716, 717, 5, 718, 103, 620, 278, 279, 280, 281, 104, 621, 622, 623, 113, 114, 115, 624, 625, 626, 627, 68, 628, 629, 630, 631, 67, 369, 370, 371, 372, 632, 633, 634, 635, 85, 915, 916, 917, 918, 919, 920, 921, 922, 923, 924, 925, 926, 927, 928, 929, 930, 931, 932, 933, 934, 935, 936, 937, 938, 939, 940, 941, 942, 943, 944] (by decide +kernel) (by decide +kernel)
set_option maxRecDepth 20000 in
theorem gL_law_X5_bothAt : GoodIn wsL_law (wsV RL 169 RX5 yX5_bothAt wsX5_bothAt) := goodIn_app (goodIn_of _ (by decide +kernel)) ggL_law_X5_bothAt
set_option maxRecDepth 20000 in
theorem ggL_law_X4_longest : GoodIn wsL_law wsX4_longest := goodIn_r _ [731, 16, 93, 132, 133, 2, 134, 599, 600, 601, 732, 733, 734, 735, 216, 663, 614, 615, 906, 907, 908, 909, 910, 911, 912, 913, 914, 945, 946] (by decide +kernel) (by decide +kernel)
set_option maxRecDepth 20000 in
theorem gL_law_X4_longest : GoodIn wsL_law (wsV RL 170 RX4 yX4_longest wsX4_longest) := goodIn_app (goodIn_of _ (by decide +kernel)) ggL_law_X4_longest
set_option maxRecDepth 20000 in
theorem ggL_law_X5_longest : GoodIn wsL_law wsX5_longest := goodIn_r _ [739, 103, 104, 67, 225, 226, 5, 227, 113, 114, 115, 621, 622, 623, 915, 916, 917, 918, 919, 920, 921, 922, 923, 924, 925, 926, 927, 928, 929, 930, 931, 932, 933, 934, 935, 936, 937, 938, 939, 940, 941, 942, 943, 944] (by decide +kernel) (by decide +kernel)
set_option maxRecDepth 20000 in
theorem gL_law_X5_longest : GoodIn wsL_law (wsV RL 173 RX5 yX5_longest wsX5_longest) := goodIn_app (goodIn_of _ (by decide +kernel)) ggL_law_X5_longest
set_option maxRecDepth 20000 in
theorem ggL_law_X4_reach : GoodIn wsL_law wsX4_reach := goodIn_r _ [743, 16, 24, 93, 128, 129, 130, 15, 131, 98, 386, 387, 388, 23, 389, 390, 61, 391, 392, 393, 394, 38, 744, 745, 746, 747, 62, 748, 749, 750, 751, 752, 753, 754, 755, 756, 757, 758, 759, 760, 761, 906, 907, 908, 909, 910, 911, 912, 913, 914, 945, 946, 958, 959, 960, 961] (by decide +kernel) (by decide +kernel)
set_option maxRecDepth 20000 in
theorem gL_law_X4_reach : GoodIn wsL_law (wsV RL 174 RX4 yX4_reach wsX4_reach) := goodIn_app (goodIn_of _ (by decide +kernel)) ggL_law_X4_reach
set_option maxRecDepth 20000 in
theorem ggL_law_X5_reach : GoodIn wsL_law wsX5_reach := goodIn_r _ [765, 103, 104, 337, 221, 222, 223, 5, 224, 113, 114, 115, 685, 686, 687, 688, 67, 369, 370, 371, 372, 915, 916, 917, 918, 919, 920, 921, 922, 923, 924, 925, 926, 927, 928, 929, 930, 931, 932, 933, 934, 935, 936, 937, 938, 939, 940, 941, 942, 943, 944] (by decide +kernel) (by decide +kernel)
set_option maxRecDepth 20000 in
theorem gL_law_X5_reach : GoodIn wsL_law (wsV RL 177 RX5 yX5_reach wsX5_reach) := goodIn_app (goodIn_of _ (by decide +kernel)) ggL_law_X5_reach
set_option maxRecDepth 20000 in
theorem ggL_law_X4_parted : GoodIn wsL_law wsX4_parted := goodIn_r _ [769, 16, 24, 32, 302, 208, 209, 210, 270, 271, 272, 15, 273, 98, 386, 387, 388, 23, 389, 390, 61, 391, 392, 393, 394, 38, 770, 751, 752, 753, 744, 745, 746, 747, 62, 748, 749, 750, 754, 755, 756, 757, 758, 759, 760, 761, 906, 907, 908, 909, 910, 911, 912, 913, 914, 945, 946, 958, 959, 960, 961] (by decide +kernel) (by decide +kernel)
set_option maxRecDepth 20000 in
theorem gL_law_X4_parted : GoodIn wsL_law (wsV RL 178 RX4 yX4_parted wsX4_parted) := goodIn_app (goodIn_of _ (by decide +kernel)) ggL_law_X4_parted
set_option maxRecDepth 20000 in
theorem ggL_law_X5_parted : GoodIn wsL_law wsX5_parted := goodIn_r _ [774, 103, 86, 278, 279, 280, 5, 281, 104, 775, 776, 777, 778, 67, 87, 779, 780, 781, 782, 88, 783, 784, 785, 786, 787, 915, 916, 917, 918, 919, 920, 921, 922, 923, 924, 925, 926, 927, 928, 929, 930, 931, 932, 933, 934, 935, 936, 937, 938, 939, 940, 941, 942, 943, 944] (by decide +kernel) (by decide +kernel)
set_option maxRecDepth 20000 in
theorem gL_law_X5_parted : GoodIn wsL_law (wsV RL 181 RX5 yX5_parted wsX5_parted) := goodIn_app (goodIn_of _ (by decide +kernel)) ggL_law_X5_parted
set_option maxRecDepth 20000 in
theorem ggL_law_X4_cut : GoodIn wsL_law wsX4_cut := goodIn_r _ [791, 16, 326, 270, 271, 272, 15, 273, 98, 676, 677, 678, 679, 331, 38, 680, 362, 363, 364, 614, 2, 615, 906, 907, 908, 909, 910, 911, 912, 913, 914, 945, 946] (by decide +kernel) (by decide +kernel)
set_option maxRecDepth 20000 in
theorem gL_law_X4_cut : GoodIn wsL_law (wsV RL 182 RX4 yX4_cut wsX4_cut) := goodIn_app (goodIn_of _ (by decide +kernel)) ggL_law_X4_cut
set_option maxRecDepth 20000 in
theorem ggL_law_X5_cut : GoodIn wsL_law wsX5_cut := goodIn_r _ [795, 103, 337, 278, 279, 280, 5, 281, 104, 685, 686, 687, 688, 67, 369, 370, 371, 372, 915, 916, 917, 918, 919, 920, 921, 922, 923, 924, 925, 926, 927, 928, 929, 930, 931, 932, 933, 934, 935, 936, 937, 938, 939, 940, 941, 942, 943, 944] (by decide +kernel) (by decide +kernel)
set_option maxRecDepth 20000 in
theorem gL_law_X5_cut : GoodIn wsL_law (wsV RL 185 RX5 yX5_cut wsX5_cut) := goodIn_app (goodIn_of _ (by decide +kernel)) ggL_law_X5_cut
