set_option maxRecDepth 20000 in
theorem ggL_law_X9_settle : GoodIn wsL_law wsX9_settle := goodIn_r _ [368, 133, 134, 344, 345, 346, 5, 347, 348, 349, 350, 351, 259, 168, 169, 170, 352, 353, 354, 355, 128, 131, 920, 921, 922, 923, 924, 925, 926, 927, 928, 929, 930, 931, 932, 933, 934, 935, 936, 937, 938, 939, 940, 941, 942, 943, 944, 945, 946, 947, 948, 949, 950, 951, 952, 953, 954, 955, 956] (by decide +kernel) (by decide +kernel)
set_option maxRecDepth 20000 in
theorem gL_law_X9_settle : GoodIn wsL_law (wsV RL 47 RX9 yX9_settle wsX9_settle) := goodIn_app (goodIn_of _ (by decide +kernel)) ggL_law_X9_settle
set_option maxRecDepth 20000 in
theorem ggL_law_X8_show : GoodIn wsL_law wsX8_show := goodIn_r _ [372, 23, 373, 374, 320, 321, 22, 322, 288, 907, 908, 909, 910, 911, 912, 913, 914, 915, 916, 917, 918, 919, 969, 970, 971, 972, 973, 974, 975] (by decide +kernel) (by decide +kernel)
set_option maxRecDepth 20000 in
theorem gL_law_X8_show : GoodIn wsL_law (wsV RL 48 RX8 yX8_show wsX8_show) := goodIn_app (goodIn_of _ (by decide +kernel)) ggL_law_X8_show
set_option maxRecDepth 20000 in
theorem ggL_law_X9_show : GoodIn wsL_law wsX9_show := goodIn_r _ [378, 135, 348, 349, 350, 5, 351, 259, 168, 169, 170, 920, 921, 922, 923, 924, 925, 926, 927, 928, 929, 930, 931, 932, 933, 934, 935, 936, 937, 938, 939, 940, 941, 942, 943, 944, 945, 946, 947, 948, 949, 950, 951, 952, 953, 954, 955, 956] (by decide +kernel) (by decide +kernel)
set_option maxRecDepth 20000 in
theorem gL_law_X9_show : GoodIn wsL_law (wsV RL 51 RX9 yX9_show wsX9_show) := goodIn_app (goodIn_of _ (by decide +kernel)) ggL_law_X9_show
set_option maxRecDepth 20000 in
theorem ggL_law_X8_ofItem : GoodIn wsL_law wsX8_ofItem := goodIn_r _ [382, 23, 383, 384, 385, 314, 364, 27, 35, 373, 374, 320, 321, 22, 322, 288, 386, 387, 388, 2, 389, 19, 248, 270, 271, 284, 285, 286, 287, 70, 71, 390, 391, 392, 393, 394, 395, 396, 397, 34, 398, 99, 297, 103, 399, 400, 401, 26, 402, 327, 403, 404, 405, 406, 81, 84, 907, 908, 909, 910, 911, 912, 913, 914, 915, 916, 917, 918, 919, 969, 970, 971, 972, 973, 974, 975, 964, 965, 966, 967, 968, 981, 982, 983, 984, 985, 986, 987, 988, 989, 976, 977, 978, 979] (by decide +kernel) (by decide +kernel)
set_option maxRecDepth 20000 in
theorem gL_law_X8_ofItem : GoodIn wsL_law (wsV RL 52 RX8 yX8_ofItem wsX8_ofItem) := goodIn_app (goodIn_of _ (by decide +kernel)) ggL_law_X8_ofItem
set_option maxRecDepth 20000 in
theorem ggL_law_X9_ofItem : GoodIn wsL_law wsX9_ofItem := goodIn_r _ [410, 131, 132, 133, 134, 135, 348, 349, 350, 5, 351, 259, 168, 169, 170, 352, 353, 354, 355, 128, 411, 412, 413, 414, 258, 129, 130, 306, 307, 308, 309, 415, 416, 417, 418, 419, 420, 421, 422, 423, 424, 425, 426, 427, 261, 262, 142, 356, 357, 358, 359, 428, 429, 430, 431, 260, 432, 433, 434, 435, 136, 138, 920, 921, 922, 923, 924, 925, 926, 927, 928, 929, 930, 931, 932, 933, 934, 935, 936, 937, 938, 939, 940, 941, 942, 943, 944, 945, 946, 947, 948, 949, 950, 951, 952, 953, 954, 955, 956] (by decide +kernel) (by decide +kernel)
set_option maxRecDepth 20000 in
theorem gL_law_X9_ofItem : GoodIn wsL_law (wsV RL 55 RX9 yX9_ofItem wsX9_ofItem) := goodIn_app (goodIn_of _ (by decide +kernel)) ggL_law_X9_ofItem
set_option maxRecDepth 20000 in
theorem ggL_law_X8_hand : GoodIn wsL_law wsX8_hand := goodIn_r _ [439, 27, 247, 440, 441, 442, 26, 443, 327, 81, 82, 84, 907, 908, 909, 910, 911, 912, 913, 914, 915, 916, 917, 918, 919, 976, 977, 978, 979] (by decide +kernel) (by decide +kernel)
set_option maxRecDepth 20000 in
theorem gL_law_X8_hand : GoodIn wsL_law (wsV RL 56 RX8 yX8_hand wsX8_hand) := goodIn_app (goodIn_of _ (by decide +kernel)) ggL_law_X8_hand
set_option maxRecDepth 20000 in
theorem ggL_law_X9_hand : GoodIn wsL_law wsX9_hand := goodIn_r _ [447, 260, 136, 137, 138, 920, 921, 922, 923, 924, 925, 926, 927, 928, 929, 930, 931, 932, 933, 934, 935, 936, 937, 938, 939, 940, 941, 942, 943, 944, 945, 946, 947, 948, 949, 950, 951, 952, 953, 954, 955, 956] (by decide +kernel) (by decide +kernel)
set_option maxRecDepth 20000 in
theorem gL_law_X9_hand : GoodIn wsL_law (wsV RL 59 RX9 yX9_hand wsX9_hand) := goodIn_app (goodIn_of _ (by decide +kernel)) ggL_law_X9_hand
set_option maxRecDepth 20000 in
theorem ggL_law_X8_out : GoodIn wsL_law wsX8_out := goodIn_r _ [451, 27, 452, 453, 454, 455, 26, 456, 327, 907, 908, 909, 910, 911, 912, 913, 914, 915, 916, 917, 918, 919, 976, 977, 978, 979] (by decide +kernel) (by decide +kernel)
set_option maxRecDepth 20000 in
theorem gL_law_X8_out : GoodIn wsL_law (wsV RL 60 RX8 yX8_out wsX8_out) := goodIn_app (goodIn_of _ (by decide +kernel)) ggL_law_X8_out
set_option maxRecDepth 20000 in
theorem ggL_law_X9_out : GoodIn wsL_law wsX9_out := goodIn_r _ [460, 136, 461, 462, 463, 5, 464, 260, 168, 169, 170, 920, 921, 922, 923, 924, 925, 926, 927, 928, 929, 930, 931, 932, 933, 934, 935, 936, 937, 938, 939, 940, 941, 942, 943, 944, 945, 946, 947, 948, 949, 950, 951, 952, 953, 954, 955, 956] (by decide +kernel) (by decide +kernel)
set_option maxRecDepth 20000 in
theorem gL_law_X9_out : GoodIn wsL_law (wsV RL 64 RX9 yX9_out wsX9_out) := goodIn_app (goodIn_of _ (by decide +kernel)) ggL_law_X9_out
set_option maxRecDepth 20000 in
theorem ggL_law_X8_answer : GoodIn wsL_law wsX8_answer := goodIn_r _ [468, 27, 23, 452, 469, 453, 454, 455, 26, 456, 327, 315, 316, 317, 22, 318, 72, 319, 320, 321, 322, 288, 386, 387, 388, 2, 389, 383, 19, 248, 270, 384, 271, 284, 285, 286, 287, 70, 71, 390, 391, 392, 393, 35, 394, 395, 396, 397, 34, 398, 99, 297, 103, 907, 908, 909, 910, 911, 912, 913, 914, 915, 916, 917, 918, 919, 976, 977, 978, 979, 969, 970, 971, 972, 973, 974, 975, 964, 965, 966, 967, 968, 981, 982, 983, 984, 985, 986, 987, 988, 989] (by decide +kernel) (by decide +kernel)
set_option maxRecDepth 20000 in
theorem gL_law_X8_answer : GoodIn wsL_law (wsV RL 65 RX8 yX8_answer wsX8_answer) := goodIn_app (goodIn_of _ (by decide +kernel)) ggL_law_X8_answer
set_option maxRecDepth 20000 in
theorem ggL_law_X9_answer : GoodIn wsL_law wsX9_answer := goodIn_r _ [473, 136, 138, 461, 462, 463, 5, 464, 260, 168, 169, 170, 344, 345, 346, 347, 348, 349, 350, 351, 259, 352, 353, 354, 355, 128, 131, 411, 412, 413, 414, 258, 129, 132, 130, 306, 307, 308, 309, 415, 416, 417, 418, 419, 420, 421, 422, 423, 424, 425, 426, 427, 261, 262, 142, 356, 357, 358, 359, 133, 134, 920, 921, 922, 923, 924, 925, 926, 927, 928, 929, 930, 931, 932, 933, 934, 935, 936, 937, 938, 939, 940, 941, 942, 943, 944, 945, 946, 947, 948, 949, 950, 951, 952, 953, 954, 955, 956] (by decide +kernel) (by decide +kernel)
set_option maxRecDepth 20000 in
theorem gL_law_X9_answer : GoodIn wsL_law (wsV RL 69 RX9 yX9_answer wsX9_answer) := goodIn_app (goodIn_of _ (by decide +kernel)) ggL_law_X9_answer
set_option maxRecDepth 20000 in
theorem ggL_law_X8_back : GoodIn wsL_law wsX8_back := goodIn_r _ [477, 27, 23, 469, 453, 454, 455, 26, 456, 327, 374, 320, 321, 22, 322, 288, 907, 908, 909, 910, 911, 912, 913, 914, 915, 916, 917, 918, 919, 976, 977, 978, 979, 969, 970, 971, 972, 973, 974, 975] (by decide +kernel) (by decide +kernel)
set_option maxRecDepth 20000 in
theorem gL_law_X8_back : GoodIn wsL_law (wsV RL 70 RX8 yX8_back wsX8_back) := goodIn_app (goodIn_of _ (by decide +kernel)) ggL_law_X8_back
set_option maxRecDepth 20000 in
theorem ggL_law_X9_back : GoodIn wsL_law wsX9_back := goodIn_r _ [481, 138, 461, 462, 463, 5, 464, 260, 168, 169, 170, 348, 349, 350, 351, 259, 920, 921, 922, 923, 924, 925, 926, 927, 928, 929, 930, 931, 932, 933, 934, 935, 936, 937, 938, 939, 940, 941, 942, 943, 944, 945, 946, 947, 948, 949, 950, 951, 952, 953, 954, 955, 956] (by decide +kernel) (by decide +kernel)
set_option maxRecDepth 20000 in
theorem gL_law_X9_back : GoodIn wsL_law (wsV RL 73 RX9 yX9_back wsX9_back) := goodIn_app (goodIn_of _ (by decide +kernel)) ggL_law_X9_back
set_option maxRecDepth 20000 in
theorem ggL_law_X8_said : GoodIn wsL_law wsX8_said := goodIn_r _ [485, 27, 23, 469, 453, 454, 455, 26, 456, 327, 374, 320, 321, 22, 322, 288, 907, 908, 909, 910, 911, 912, 913, 914, 915, 916, 917, 918, 919, 976, 977, 978, 979, 969, 970, 971, 972, 973, 974, 975] (by decide +kernel) (by decide +kernel)
set_option maxRecDepth 20000 in
theorem gL_law_X8_said : GoodIn wsL_law (wsV RL 74 RX8 yX8_said wsX8_said) := goodIn_app (goodIn_of _ (by decide +kernel)) ggL_law_X8_said
set_option maxRecDepth 20000 in
theorem ggL_law_X9_said : GoodIn wsL_law wsX9_said := goodIn_r _ [489, 138, 461, 462, 463, 5, 464, 260, 168, 169, 170, 348, 349, 350, 351, 259, 920, 921, 922, 923, 924, 925, 926, 927, 928, 929, 930, 931, 932, 933, 934, 935, 936, 937, 938, 939, 940, 941, 942, 943, 944, 945, 946, 947, 948, 949, 950, 951, 952, 953, 954, 955, 956] (by decide +kernel) (by decide +kernel)
set_option maxRecDepth 20000 in
theorem gL_law_X9_said : GoodIn wsL_law (wsV RL 77 RX9 yX9_said wsX9_said) := goodIn_app (goodIn_of _ (by decide +kernel)) ggL_law_X9_said
set_option maxRecDepth 20000 in
theorem ggL_law_X8_set : GoodIn wsL_law wsX8_set := goodIn_r _ [493, 31, 494, 495, 496, 30, 497, 89, 498, 499, 907, 908, 909, 910, 911, 912, 913, 914, 915, 916, 917, 918, 919, 980] (by decide +kernel) (by decide +kernel)
set_option maxRecDepth 20000 in
theorem gL_law_X8_set : GoodIn wsL_law (wsV RL 78 RX8 yX8_set wsX8_set) := goodIn_app (goodIn_of _ (by decide +kernel)) ggL_law_X8_set
set_option maxRecDepth 20000 in
theorem ggL_law_X9_set : GoodIn wsL_law wsX9_set := goodIn_r _ [503, 504, 139, 168, 169, 5, 170, 920, 921, 922, 923, 924, 925, 926, 927, 928, 929, 930, 931, 932, 933, 934, 935, 936, 937, 938, 939, 940, 941, 942, 943, 944, 945, 946, 947, 948, 949, 950, 951, 952, 953, 954, 955, 956] (by decide +kernel) (by decide +kernel)
set_option maxRecDepth 20000 in
theorem gL_law_X9_set : GoodIn wsL_law (wsV RL 81 RX9 yX9_set wsX9_set) := goodIn_app (goodIn_of _ (by decide +kernel)) ggL_law_X9_set
