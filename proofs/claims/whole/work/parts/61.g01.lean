set_option maxRecDepth 20000 in
theorem ggL_law_X9_settle : GoodIn wsL_law wsX9_settle := goodIn_r _ [365, 133, 134, 341, 342, 343, 5, 344, 345, 346, 347, 348, 259, 168, 169, 170, 349, 350, 351, 352, 128, 131, 917, 918, 919, 920, 921, 922, 923, 924, 925, 926, 927, 928, 929, 930, 931, 932, 933, 934, 935, 936, 937, 938, 939, 940, 941, 942, 943, 944, 945, 946, 947, 948, 949, 950, 951, 952, 953] (by decide +kernel) (by decide +kernel)
set_option maxRecDepth 20000 in
theorem gL_law_X9_settle : GoodIn wsL_law (wsV RL 47 RX9 yX9_settle wsX9_settle) := goodIn_app (goodIn_of _ (by decide +kernel)) ggL_law_X9_settle
set_option maxRecDepth 20000 in
theorem ggL_law_X8_show : GoodIn wsL_law wsX8_show := goodIn_r _ [369, 23, 370, 371, 317, 318, 22, 319, 288, 904, 905, 906, 907, 908, 909, 910, 911, 912, 913, 914, 915, 916, 966, 967, 968, 969, 970, 971, 972] (by decide +kernel) (by decide +kernel)
set_option maxRecDepth 20000 in
theorem gL_law_X8_show : GoodIn wsL_law (wsV RL 48 RX8 yX8_show wsX8_show) := goodIn_app (goodIn_of _ (by decide +kernel)) ggL_law_X8_show
set_option maxRecDepth 20000 in
theorem ggL_law_X9_show : GoodIn wsL_law wsX9_show := goodIn_r _ [375, 135, 345, 346, 347, 5, 348, 259, 168, 169, 170, 917, 918, 919, 920, 921, 922, 923, 924, 925, 926, 927, 928, 929, 930, 931, 932, 933, 934, 935, 936, 937, 938, 939, 940, 941, 942, 943, 944, 945, 946, 947, 948, 949, 950, 951, 952, 953] (by decide +kernel) (by decide +kernel)
set_option maxRecDepth 20000 in
theorem gL_law_X9_show : GoodIn wsL_law (wsV RL 51 RX9 yX9_show wsX9_show) := goodIn_app (goodIn_of _ (by decide +kernel)) ggL_law_X9_show
set_option maxRecDepth 20000 in
theorem ggL_law_X8_ofItem : GoodIn wsL_law wsX8_ofItem := goodIn_r _ [379, 23, 380, 381, 382, 311, 361, 27, 35, 370, 371, 317, 318, 22, 319, 288, 383, 384, 385, 2, 386, 19, 248, 270, 271, 284, 285, 286, 287, 70, 71, 387, 388, 389, 390, 391, 392, 393, 394, 34, 395, 99, 297, 103, 396, 397, 398, 26, 399, 324, 400, 401, 402, 403, 81, 84, 904, 905, 906, 907, 908, 909, 910, 911, 912, 913, 914, 915, 916, 966, 967, 968, 969, 970, 971, 972, 961, 962, 963, 964, 965, 978, 979, 980, 981, 982, 983, 984, 985, 986, 973, 974, 975, 976] (by decide +kernel) (by decide +kernel)
set_option maxRecDepth 20000 in
theorem gL_law_X8_ofItem : GoodIn wsL_law (wsV RL 52 RX8 yX8_ofItem wsX8_ofItem) := goodIn_app (goodIn_of _ (by decide +kernel)) ggL_law_X8_ofItem
set_option maxRecDepth 20000 in
theorem ggL_law_X9_ofItem : GoodIn wsL_law wsX9_ofItem := goodIn_r _ [407, 131, 132, 133, 134, 135, 345, 346, 347, 5, 348, 259, 168, 169, 170, 349, 350, 351, 352, 128, 408, 409, 410, 411, 258, 129, 130, 303, 304, 305, 306, 412, 413, 414, 415, 416, 417, 418, 419, 420, 421, 422, 423, 424, 261, 262, 142, 353, 354, 355, 356, 425, 426, 427, 428, 260, 429, 430, 431, 432, 136, 138, 917, 918, 919, 920, 921, 922, 923, 924, 925, 926, 927, 928, 929, 930, 931, 932, 933, 934, 935, 936, 937, 938, 939, 940, 941, 942, 943, 944, 945, 946, 947, 948, 949, 950, 951, 952, 953] (by decide +kernel) (by decide +kernel)
set_option maxRecDepth 20000 in
theorem gL_law_X9_ofItem : GoodIn wsL_law (wsV RL 55 RX9 yX9_ofItem wsX9_ofItem) := goodIn_app (goodIn_of _ (by decide +kernel)) ggL_law_X9_ofItem
set_option maxRecDepth 20000 in
theorem ggL_law_X8_hand : GoodIn wsL_law wsX8_hand := goodIn_r _ [436, 27, 247, 437, 438, 439, 26, 440, 324, 81, 82, 84, 904, 905, 906, 907, 908, 909, 910, 911, 912, 913, 914, 915, 916, 973, 974, 975, 976] (by decide +kernel) (by decide +kernel)
set_option maxRecDepth 20000 in
theorem gL_law_X8_hand : GoodIn wsL_law (wsV RL 56 RX8 yX8_hand wsX8_hand) := goodIn_app (goodIn_of _ (by decide +kernel)) ggL_law_X8_hand
set_option maxRecDepth 20000 in
theorem ggL_law_X9_hand : GoodIn wsL_law wsX9_hand := goodIn_r _ [444, 260, 136, 137, 138, 917, 918, 919, 920, 921, 922, 923, 924, 925, 926, 927, 928, 929, 930, 931, 932, 933, 934, 935, 936, 937, 938, 939, 940, 941, 942, 943, 944, 945, 946, 947, 948, 949, 950, 951, 952, 953] (by decide +kernel) (by decide +kernel)
set_option maxRecDepth 20000 in
theorem gL_law_X9_hand : GoodIn wsL_law (wsV RL 59 RX9 yX9_hand wsX9_hand) := goodIn_app (goodIn_of _ (by decide +kernel)) ggL_law_X9_hand
set_option maxRecDepth 20000 in
theorem ggL_law_X8_out : GoodIn wsL_law wsX8_out := goodIn_r _ [448, 27, 449, 450, 451, 452, 26, 453, 324, 904, 905, 906, 907, 908, 909, 910, 911, 912, 913, 914, 915, 916, 973, 974, 975, 976] (by decide +kernel) (by decide +kernel)
set_option maxRecDepth 20000 in
theorem gL_law_X8_out : GoodIn wsL_law (wsV RL 60 RX8 yX8_out wsX8_out) := goodIn_app (goodIn_of _ (by decide +kernel)) ggL_law_X8_out
set_option maxRecDepth 20000 in
theorem ggL_law_X9_out : GoodIn wsL_law wsX9_out := goodIn_r _ [457, 136, 458, 459, 460, 5, 461, 260, 168, 169, 170, 917, 918, 919, 920, 921, 922, 923, 924, 925, 926, 927, 928, 929, 930, 931, 932, 933, 934, 935, 936, 937, 938, 939, 940, 941, 942, 943, 944, 945, 946, 947, 948, 949, 950, 951, 952, 953] (by decide +kernel) (by decide +kernel)
set_option maxRecDepth 20000 in
theorem gL_law_X9_out : GoodIn wsL_law (wsV RL 64 RX9 yX9_out wsX9_out) := goodIn_app (goodIn_of _ (by decide +kernel)) ggL_law_X9_out
set_option maxRecDepth 20000 in
theorem ggL_law_X8_answer : GoodIn wsL_law wsX8_answer := goodIn_r _ [465, 27, 23, 449, 466, 450, 451, 452, 26, 453, 324, 312, 313, 314, 22, 315, 72, 316, 317, 318, 319, 288, 383, 384, 385, 2, 386, 380, 19, 248, 270, 381, 271, 284, 285, 286, 287, 70, 71, 387, 388, 389, 390, 35, 391, 392, 393, 394, 34, 395, 99, 297, 103, 904, 905, 906, 907, 908, 909, 910, 911, 912, 913, 914, 915, 916, 973, 974, 975, 976, 966, 967, 968, 969, 970, 971, 972, 961, 962, 963, 964, 965, 978, 979, 980, 981, 982, 983, 984, 985, 986] (by decide +kernel) (by decide +kernel)
set_option maxRecDepth 20000 in
theorem gL_law_X8_answer : GoodIn wsL_law (wsV RL 65 RX8 yX8_answer wsX8_answer) := goodIn_app (goodIn_of _ (by decide +kernel)) ggL_law_X8_answer
set_option maxRecDepth 20000 in
theorem ggL_law_X9_answer : GoodIn wsL_law wsX9_answer := goodIn_r _ [470, 136, 138, 458, 459, 460, 5, 461, 260, 168, 169, 170, 341, 342, 343, 344, 345, 346, 347, 348, 259, 349, 350, 351, 352, 128, 131, 408, 409, 410, 411, 258, 129, 132, 130, 303, 304, 305, 306, 412, 413, 414, 415, 416, 417, 418, 419, 420, 421, 422, 423, 424, 261, 262, 142, 353, 354, 355, 356, 133, 134, 917, 918, 919, 920, 921, 922, 923, 924, 925, 926, 927, 928, 929, 930, 931, 932, 933, 934, 935, 936, 937, 938, 939, 940, 941, 942, 943, 944, 945, 946, 947, 948, 949, 950, 951, 952, 953] (by decide +kernel) (by decide +kernel)
set_option maxRecDepth 20000 in
theorem gL_law_X9_answer : GoodIn wsL_law (wsV RL 69 RX9 yX9_answer wsX9_answer) := goodIn_app (goodIn_of _ (by decide +kernel)) ggL_law_X9_answer
set_option maxRecDepth 20000 in
theorem ggL_law_X8_back : GoodIn wsL_law wsX8_back := goodIn_r _ [474, 27, 23, 466, 450, 451, 452, 26, 453, 324, 371, 317, 318, 22, 319, 288, 904, 905, 906, 907, 908, 909, 910, 911, 912, 913, 914, 915, 916, 973, 974, 975, 976, 966, 967, 968, 969, 970, 971, 972] (by decide +kernel) (by decide +kernel)
set_option maxRecDepth 20000 in
theorem gL_law_X8_back : GoodIn wsL_law (wsV RL 70 RX8 yX8_back wsX8_back) := goodIn_app (goodIn_of _ (by decide +kernel)) ggL_law_X8_back
set_option maxRecDepth 20000 in
theorem ggL_law_X9_back : GoodIn wsL_law wsX9_back := goodIn_r _ [478, 138, 458, 459, 460, 5, 461, 260, 168, 169, 170, 345, 346, 347, 348, 259, 917, 918, 919, 920, 921, 922, 923, 924, 925, 926, 927, 928, 929, 930, 931, 932, 933, 934, 935, 936, 937, 938, 939, 940, 941, 942, 943, 944, 945, 946, 947, 948, 949, 950, 951, 952, 953] (by decide +kernel) (by decide +kernel)
set_option maxRecDepth 20000 in
theorem gL_law_X9_back : GoodIn wsL_law (wsV RL 73 RX9 yX9_back wsX9_back) := goodIn_app (goodIn_of _ (by decide +kernel)) ggL_law_X9_back
set_option maxRecDepth 20000 in
theorem ggL_law_X8_said : GoodIn wsL_law wsX8_said := goodIn_r _ [482, 27, 23, 466, 450, 451, 452, 26, 453, 324, 371, 317, 318, 22, 319, 288, 904, 905, 906, 907, 908, 909, 910, 911, 912, 913, 914, 915, 916, 973, 974, 975, 976, 966, 967, 968, 969, 970, 971, 972] (by decide +kernel) (by decide +kernel)
set_option maxRecDepth 20000 in
theorem gL_law_X8_said : GoodIn wsL_law (wsV RL 74 RX8 yX8_said wsX8_said) := goodIn_app (goodIn_of _ (by decide +kernel)) ggL_law_X8_said
set_option maxRecDepth 20000 in
theorem ggL_law_X9_said : GoodIn wsL_law wsX9_said := goodIn_r _ [486, 138, 458, 459, 460, 5, 461, 260, 168, 169, 170, 345, 346, 347, 348, 259, 917, 918, 919, 920, 921, 922, 923, 924, 925, 926, 927, 928, 929, 930, 931, 932, 933, 934, 935, 936, 937, 938, 939, 940, 941, 942, 943, 944, 945, 946, 947, 948, 949, 950, 951, 952, 953] (by decide +kernel) (by decide +kernel)
set_option maxRecDepth 20000 in
theorem gL_law_X9_said : GoodIn wsL_law (wsV RL 77 RX9 yX9_said wsX9_said) := goodIn_app (goodIn_of _ (by decide +kernel)) ggL_law_X9_said
set_option maxRecDepth 20000 in
theorem ggL_law_X8_set : GoodIn wsL_law wsX8_set := goodIn_r _ [490, 31, 491, 492, 493, 30, 494, 89, 495, 496, 904, 905, 906, 907, 908, 909, 910, 911, 912, 913, 914, 915, 916, 977] (by decide +kernel) (by decide +kernel)
set_option maxRecDepth 20000 in
theorem gL_law_X8_set : GoodIn wsL_law (wsV RL 78 RX8 yX8_set wsX8_set) := goodIn_app (goodIn_of _ (by decide +kernel)) ggL_law_X8_set
set_option maxRecDepth 20000 in
theorem ggL_law_X9_set : GoodIn wsL_law wsX9_set := goodIn_r _ [500, 501, 139, 168, 169, 5, 170, 917, 918, 919, 920, 921, 922, 923, 924, 925, 926, 927, 928, 929, 930, 931, 932, 933, 934, 935, 936, 937, 938, 939, 940, 941, 942, 943, 944, 945, 946, 947, 948, 949, 950, 951, 952, 953] (by decide +kernel) (by decide +kernel)
set_option maxRecDepth 20000 in
theorem gL_law_X9_set : GoodIn wsL_law (wsV RL 81 RX9 yX9_set wsX9_set) := goodIn_app (goodIn_of _ (by decide +kernel)) ggL_law_X9_set
