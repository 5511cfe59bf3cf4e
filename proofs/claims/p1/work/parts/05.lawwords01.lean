set_option maxRecDepth 20000 in
theorem ggL_law_X5_insert : GoodIn wsL_law wsX5_insert := goodIn_r _ [321, 103, 104, 67, 113, 114, 5, 115, 225, 226, 227, 915, 916, 917, 918, 919, 920, 921, 922, 923, 924, 925, 926, 927, 928, 929, 930, 931, 932, 933, 934, 935, 936, 937, 938, 939, 940, 941, 942, 943, 944] (by decide +kernel) (by decide +kernel)
set_option maxRecDepth 20000 in
theorem gL_law_X5_insert : GoodIn wsL_law (wsV RL 63 RX5 yX5_insert wsX5_insert) := goodIn_app (goodIn_of _ (by decide +kernel)) ggL_law_X5_insert
set_option maxRecDepth 20000 in
theorem ggL_law_X4_remove : GoodIn wsL_law wsX4_remove := goodIn_r _ [325, 16, 326, 34, 128, 129, 130, 15, 131, 98, 327, 328, 329, 330, 331, 38, 332, 906, 907, 908, 909, 910, 911, 912, 913, 914, 945, 946] (by decide +kernel) (by decide +kernel)
set_option maxRecDepth 20000 in
theorem gL_law_X4_remove : GoodIn wsL_law (wsV RL 64 RX4 yX4_remove wsX4_remove) := goodIn_app (goodIn_of _ (by decide +kernel)) ggL_law_X4_remove
set_option maxRecDepth 20000 in
theorem ggL_law_X5_remove : GoodIn wsL_law wsX5_remove := goodIn_r _ [336, 103, 337, 67, 104, 221, 222, 223, 5, 224, 113, 114, 115, 915, 916, 917, 918, 919, 920, 921, 922, 923, 924, 925, 926, 927, 928, 929, 930, 931, 932, 933, 934, 935, 936, 937, 938, 939, 940, 941, 942, 943, 944] (by decide +kernel) (by decide +kernel)
set_option maxRecDepth 20000 in
theorem gL_law_X5_remove : GoodIn wsL_law (wsV RL 67 RX5 yX5_remove wsX5_remove) := goodIn_app (goodIn_of _ (by decide +kernel)) ggL_law_X5_remove
set_option maxRecDepth 20000 in
theorem ggL_law_L_at : GoodIn wsL_law wsL_at := goodIn_ca (goodIn_r _ [341, 342, 343, 344, 345, 2, 346, 347, 348, 16, 216, 128, 129, 130, 15, 131, 98, 906, 907, 908, 909, 910, 911, 912, 913, 914, 945, 946] (by decide +kernel) (by decide +kernel)) (goodIn_sub (fun _ h => List.mem_append_right _ h) (by decide +kernel))
set_option maxRecDepth 20000 in
theorem gL_law_L_at : GoodIn wsL_law (va_wsS RL 68 yL_at wsL_at) := goodIn_app (goodIn_of _ (by decide +kernel)) ggL_law_L_at
set_option maxRecDepth 20000 in
theorem ggL_law_X5_at : GoodIn wsL_law wsX5_at := goodIn_r _ [352, 103, 67, 221, 222, 223, 5, 224, 104, 113, 114, 115, 915, 916, 917, 918, 919, 920, 921, 922, 923, 924, 925, 926, 927, 928, 929, 930, 931, 932, 933, 934, 935, 936, 937, 938, 939, 940, 941, 942, 943, 944] (by decide +kernel) (by decide +kernel)
set_option maxRecDepth 20000 in
theorem gL_law_X5_at : GoodIn wsL_law (wsV RL 73 RX5 yX5_at wsX5_at) := goodIn_app (goodIn_of _ (by decide +kernel)) ggL_law_X5_at
set_option maxRecDepth 20000 in
theorem ggL_law_X5_thrown : GoodIn wsL_law wsX5_thrown := goodIn_r _ [356, 103, 915, 916, 917, 918, 919, 920, 921, 922, 923, 924, 925, 926, 927, 928, 929, 930, 931, 932, 933, 934, 935, 936, 937, 938, 939, 940, 941, 942, 943, 944] (by decide +kernel) (by decide +kernel)
set_option maxRecDepth 20000 in
theorem gL_law_X5_thrown : GoodIn wsL_law (wsV RL 74 RX5 yX5_thrown wsX5_thrown) := goodIn_app (goodIn_of _ (by decide +kernel)) ggL_law_X5_thrown
set_option maxRecDepth 20000 in
theorem ggL_law_X4_count : GoodIn wsL_law wsX4_count := goodIn_r _ [360, 16, 132, 133, 2, 134, 270, 271, 272, 15, 273, 98, 361, 362, 363, 364, 38, 906, 907, 908, 909, 910, 911, 912, 913, 914, 945, 946] (by decide +kernel) (by decide +kernel)
set_option maxRecDepth 20000 in
theorem gL_law_X4_count : GoodIn wsL_law (wsV RL 78 RX4 yX4_count wsX4_count) := goodIn_app (goodIn_of _ (by decide +kernel)) ggL_law_X4_count
set_option maxRecDepth 20000 in
theorem ggL_law_X5_count : GoodIn wsL_law wsX5_count := goodIn_r _ [368, 103, 225, 226, 5, 227, 113, 114, 115, 278, 279, 280, 281, 104, 369, 370, 371, 372, 67, 915, 916, 917, 918, 919, 920, 921, 922, 923, 924, 925, 926, 927, 928, 929, 930, 931, 932, 933, 934, 935, 936, 937, 938, 939, 940, 941, 942, 943, 944] (by decide +kernel) (by decide +kernel)
set_option maxRecDepth 20000 in
theorem gL_law_X5_count : GoodIn wsL_law (wsV RL 81 RX5 yX5_count wsX5_count) := goodIn_app (goodIn_of _ (by decide +kernel)) ggL_law_X5_count
set_option maxRecDepth 20000 in
theorem ggL_law_X4_place : GoodIn wsL_law wsX4_place := goodIn_r _ [376, 16, 93, 216, 906, 907, 908, 909, 910, 911, 912, 913, 914, 945, 946] (by decide +kernel) (by decide +kernel)
set_option maxRecDepth 20000 in
theorem gL_law_X4_place : GoodIn wsL_law (wsV RL 82 RX4 yX4_place wsX4_place) := goodIn_app (goodIn_of _ (by decide +kernel)) ggL_law_X4_place
set_option maxRecDepth 20000 in
theorem ggL_law_X5_place : GoodIn wsL_law wsX5_place := goodIn_r _ [380, 103, 104, 67, 915, 916, 917, 918, 919, 920, 921, 922, 923, 924, 925, 926, 927, 928, 929, 930, 931, 932, 933, 934, 935, 936, 937, 938, 939, 940, 941, 942, 943, 944] (by decide +kernel) (by decide +kernel)
set_option maxRecDepth 20000 in
theorem gL_law_X5_place : GoodIn wsL_law (wsV RL 85 RX5 yX5_place wsX5_place) := goodIn_app (goodIn_of _ (by decide +kernel)) ggL_law_X5_place
set_option maxRecDepth 20000 in
theorem ggL_law_X4_values : GoodIn wsL_law wsX4_values := goodIn_r _ [384, 24, 16, 93, 385, 386, 387, 388, 23, 389, 390, 61, 391, 392, 393, 15, 394, 38, 906, 907, 908, 909, 910, 911, 912, 913, 914, 945, 946, 958, 959, 960, 961] (by decide +kernel) (by decide +kernel)
set_option maxRecDepth 20000 in
theorem gL_law_X4_values : GoodIn wsL_law (wsV RL 86 RX4 yX4_values wsX4_values) := goodIn_app (goodIn_of _ (by decide +kernel)) ggL_law_X4_values
set_option maxRecDepth 20000 in
theorem ggL_law_X5_values : GoodIn wsL_law wsX5_values := goodIn_r _ [398, 103, 104, 67, 369, 370, 371, 5, 372, 915, 916, 917, 918, 919, 920, 921, 922, 923, 924, 925, 926, 927, 928, 929, 930, 931, 932, 933, 934, 935, 936, 937, 938, 939, 940, 941, 942, 943, 944] (by decide +kernel) (by decide +kernel)
set_option maxRecDepth 20000 in
theorem gL_law_X5_values : GoodIn wsL_law (wsV RL 89 RX5 yX5_values wsX5_values) := goodIn_app (goodIn_of _ (by decide +kernel)) ggL_law_X5_values
set_option maxRecDepth 20000 in
theorem ggL_law_X4_node : GoodIn wsL_law wsX4_node := goodIn_r _ [402, 16, 403, 270, 271, 272, 15, 273, 98, 135, 136, 137, 2, 138, 34, 20, 33, 139, 93, 140, 141, 142, 19, 143, 52, 144, 145, 45, 46, 146, 147, 148, 149, 150, 151, 152, 153, 154, 155, 156, 157, 158, 159, 160, 161, 44, 162, 163, 164, 165, 166, 27, 167, 168, 169, 170, 171, 172, 173, 174, 56, 57, 175, 176, 177, 178, 47, 50, 51, 179, 48, 180, 181, 182, 183, 184, 185, 186, 187, 188, 189, 190, 191, 192, 193, 194, 195, 196, 197, 198, 199, 200, 201, 202, 203, 204, 205, 206, 207, 208, 209, 210, 49, 211, 404, 405, 406, 407, 906, 907, 908, 909, 910, 911, 912, 913, 914, 947, 948, 949, 950, 951, 952, 953, 954, 955, 956, 957, 945, 946, 962, 963, 964, 965, 966] (by decide +kernel) (by decide +kernel)
set_option maxRecDepth 20000 in
theorem gL_law_X4_node : GoodIn wsL_law (wsV RL 90 RX4 yX4_node wsX4_node) := goodIn_app (goodIn_of _ (by decide +kernel)) ggL_law_X4_node
set_option maxRecDepth 20000 in
theorem ggL_law_X5_node : GoodIn wsL_law wsX5_node := goodIn_r _ [411, 103, 69, 412, 413, 414, 5, 415, 68, 278, 279, 280, 281, 104, 233, 234, 235, 236, 232, 237, 238, 239, 240, 76, 77, 67, 241, 242, 243, 244, 70, 71, 72, 73, 245, 246, 247, 248, 249, 75, 74, 250, 251, 252, 253, 254, 255, 256, 257, 258, 259, 260, 261, 416, 417, 418, 419, 915, 916, 917, 918, 919, 920, 921, 922, 923, 924, 925, 926, 927, 928, 929, 930, 931, 932, 933, 934, 935, 936, 937, 938, 939, 940, 941, 942, 943, 944] (by decide +kernel) (by decide +kernel)
set_option maxRecDepth 20000 in
theorem gL_law_X5_node : GoodIn wsL_law (wsV RL 93 RX5 yX5_node wsX5_node) := goodIn_app (goodIn_of _ (by decide +kernel)) ggL_law_X5_node
set_option maxRecDepth 20000 in
theorem ggL_law_L_vote : GoodIn wsL_law wsL_vote := goodIn_ca (goodIn_r _ [422, 342, 423, 424, 425, 2, 426, 347, 348, 16, 403, 28, 427, 428, 270, 271, 272, 15, 273, 98, 135, 136, 137, 138, 34, 20, 33, 139, 93, 140, 141, 142, 19, 143, 52, 144, 145, 45, 46, 146, 147, 148, 149, 150, 151, 152, 153, 154, 155, 156, 157, 158, 159, 160, 161, 44, 162, 163, 164, 165, 166, 27, 167, 168, 169, 170, 171, 172, 173, 174, 56, 57, 175, 176, 177, 178, 47, 50, 51, 179, 48, 180, 181, 182, 183, 184, 185, 186, 187, 188, 189, 190, 191, 192, 193, 194, 195, 196, 197, 198, 199, 200, 201, 202, 203, 204, 205, 206, 207, 208, 209, 210, 49, 211, 404, 405, 406, 407, 429, 430, 431, 432, 906, 907, 908, 909, 910, 911, 912, 913, 914, 947, 948, 949, 950, 951, 952, 953, 954, 955, 956, 957, 962, 963, 964, 965, 966, 945, 946] (by decide +kernel) (by decide +kernel)) (goodIn_sub (fun _ h => List.mem_append_right _ h) (by decide +kernel))
set_option maxRecDepth 20000 in
theorem gL_law_L_vote : GoodIn wsL_law (va_wsS RL 94 yL_vote wsL_vote) := goodIn_app (goodIn_of _ (by decide +kernel)) ggL_law_L_vote
set_option maxRecDepth 20000 in
theorem ggL_law_X5_vote : GoodIn wsL_law wsX5_vote := goodIn_r _ [436, 103, 69, 72, 73, 412, 413, 414, 5, 415, 68, 278, 279, 280, 281, 104, 233, 234, 235, 236, 232, 237, 238, 239, 240, 76, 77, 67, 241, 242, 243, 244, 70, 71, 245, 246, 247, 248, 249, 75, 74, 250, 251, 252, 253, 254, 255, 256, 257, 258, 259, 260, 261, 416, 417, 418, 419, 113, 114, 115, 915, 916, 917, 918, 919, 920, 921, 922, 923, 924, 925, 926, 927, 928, 929, 930, 931, 932, 933, 934, 935, 936, 937, 938, 939, 940, 941, 942, 943, 944] (by decide +kernel) (by decide +kernel)
set_option maxRecDepth 20000 in
theorem gL_law_X5_vote : GoodIn wsL_law (wsV RL 97 RX5 yX5_vote wsX5_vote) := goodIn_app (goodIn_of _ (by decide +kernel)) ggL_law_X5_vote
set_option maxRecDepth 20000 in
theorem ggL_law_X4_loss : GoodIn wsL_law wsX4_loss := goodIn_r _ [440, 16, 441, 270, 271, 272, 15, 273, 98, 135, 136, 137, 2, 138, 34, 20, 33, 139, 93, 140, 141, 142, 19, 143, 52, 144, 145, 45, 46, 146, 147, 148, 149, 150, 151, 152, 153, 154, 155, 156, 157, 158, 159, 160, 161, 44, 162, 163, 164, 165, 166, 27, 167, 168, 169, 170, 171, 172, 173, 174, 56, 57, 175, 176, 177, 178, 47, 50, 51, 179, 48, 180, 181, 182, 183, 184, 185, 186, 187, 188, 189, 190, 191, 192, 193, 194, 195, 196, 197, 198, 199, 200, 201, 202, 203, 204, 205, 206, 207, 208, 209, 210, 49, 211, 404, 405, 406, 407, 906, 907, 908, 909, 910, 911, 912, 913, 914, 947, 948, 949, 950, 951, 952, 953, 954, 955, 956, 957, 945, 946, 962, 963, 964, 965, 966] (by decide +kernel) (by decide +kernel)
set_option maxRecDepth 20000 in
theorem gL_law_X4_loss : GoodIn wsL_law (wsV RL 98 RX4 yX4_loss wsX4_loss) := goodIn_app (goodIn_of _ (by decide +kernel)) ggL_law_X4_loss
set_option maxRecDepth 20000 in
theorem ggL_law_X5_loss : GoodIn wsL_law wsX5_loss := goodIn_r _ [445, 103, 70, 412, 413, 414, 5, 415, 68, 278, 279, 280, 281, 104, 233, 234, 235, 236, 232, 237, 238, 239, 240, 76, 77, 67, 241, 242, 243, 244, 69, 71, 72, 73, 245, 246, 247, 248, 249, 75, 74, 250, 251, 252, 253, 254, 255, 256, 257, 258, 259, 260, 261, 416, 417, 418, 419, 915, 916, 917, 918, 919, 920, 921, 922, 923, 924, 925, 926, 927, 928, 929, 930, 931, 932, 933, 934, 935, 936, 937, 938, 939, 940, 941, 942, 943, 944] (by decide +kernel) (by decide +kernel)
set_option maxRecDepth 20000 in
theorem gL_law_X5_loss : GoodIn wsL_law (wsV RL 101 RX5 yX5_loss wsX5_loss) := goodIn_app (goodIn_of _ (by decide +kernel)) ggL_law_X5_loss
set_option maxRecDepth 20000 in
theorem ggL_law_X4_cancelled : GoodIn wsL_law wsX4_cancelled := goodIn_r _ [449, 16, 450, 270, 271, 272, 15, 273, 98, 135, 136, 137, 2, 138, 34, 20, 33, 139, 93, 140, 141, 142, 19, 143, 52, 144, 145, 45, 46, 146, 147, 148, 149, 150, 151, 152, 153, 154, 155, 156, 157, 158, 159, 160, 161, 44, 162, 163, 164, 165, 166, 27, 167, 168, 169, 170, 171, 172, 173, 174, 56, 57, 175, 176, 177, 178, 47, 50, 51, 179, 48, 180, 181, 182, 183, 184, 185, 186, 187, 188, 189, 190, 191, 192, 193, 194, 195, 196, 197, 198, 199, 200, 201, 202, 203, 204, 205, 206, 207, 208, 209, 210, 49, 211, 404, 405, 406, 407, 906, 907, 908, 909, 910, 911, 912, 913, 914, 947, 948, 949, 950, 951, 952, 953, 954, 955, 956, 957, 945, 946, 962, 963, 964, 965, 966] (by decide +kernel) (by decide +kernel)
set_option maxRecDepth 20000 in
theorem gL_law_X4_cancelled : GoodIn wsL_law (wsV RL 102 RX4 yX4_cancelled wsX4_cancelled) := goodIn_app (goodIn_of _ (by decide +kernel)) ggL_law_X4_cancelled
set_option maxRecDepth 20000 in
theorem ggL_law_X5_cancelled : GoodIn wsL_law wsX5_cancelled := goodIn_r _ [454, 103, 71, 412, 413, 414, 5, 415, 68, 278, 279, 280, 281, 104, 233, 234, 235, 236, 232, 237, 238, 239, 240, 76, 77, 67, 241, 242, 243, 244, 69, 70, 72, 73, 245, 246, 247, 248, 249, 75, 74, 250, 251, 252, 253, 254, 255, 256, 257, 258, 259, 260, 261, 416, 417, 418, 419, 915, 916, 917, 918, 919, 920, 921, 922, 923, 924, 925, 926, 927, 928, 929, 930, 931, 932, 933, 934, 935, 936, 937, 938, 939, 940, 941, 942, 943, 944] (by decide +kernel) (by decide +kernel)
set_option maxRecDepth 20000 in
theorem gL_law_X5_cancelled : GoodIn wsL_law (wsV RL 105 RX5 yX5_cancelled wsX5_cancelled) := goodIn_app (goodIn_of _ (by decide +kernel)) ggL_law_X5_cancelled
