set_option maxRecDepth 20000 in
theorem ggL_law_X9_deal : GoodIn wsL_law wsX9_deal := goodIn_r _ [781, 424, 260, 782, 783, 137, 784, 168, 169, 5, 170, 917, 918, 919, 920, 921, 922, 923, 924, 925, 926, 927, 928, 929, 930, 931, 932, 933, 934, 935, 936, 937, 938, 939, 940, 941, 942, 943, 944, 945, 946, 947, 948, 949, 950, 951, 952, 953] (by decide +kernel) (by decide +kernel)
set_option maxRecDepth 20000 in
theorem gL_law_X9_deal : GoodIn wsL_law (wsV RL 120 RX9 yX9_deal wsX9_deal) := goodIn_app (goodIn_of _ (by decide +kernel)) ggL_law_X9_deal
set_option maxRecDepth 20000 in
theorem ggL_law_X8_better : GoodIn wsL_law wsX8_better := goodIn_r _ [788, 699, 27, 247, 23, 246, 652, 40, 662, 663, 664, 2, 665, 311, 657, 401, 402, 26, 403, 81, 84, 670, 671, 672, 673, 466, 789, 790, 791, 39, 792, 793, 794, 795, 713, 714, 715, 716, 717, 114, 718, 719, 720, 721, 904, 905, 906, 907, 908, 909, 910, 911, 912, 913, 914, 915, 916, 973, 974, 975, 976, 966, 967, 968, 969, 970, 971, 972, 987, 988, 989, 990] (by decide +kernel) (by decide +kernel)
set_option maxRecDepth 20000 in
theorem gL_law_X8_better : GoodIn wsL_law (wsV RL 121 RX8 yX8_better wsX8_better) := goodIn_app (goodIn_of _ (by decide +kernel)) ggL_law_X8_better
set_option maxRecDepth 20000 in
theorem ggL_law_X9_better : GoodIn wsL_law wsX9_better := goodIn_r _ [799, 727, 260, 259, 133, 137, 168, 169, 5, 170, 429, 430, 431, 432, 136, 138, 690, 691, 692, 693, 800, 801, 802, 742, 743, 744, 745, 746, 747, 917, 918, 919, 920, 921, 922, 923, 924, 925, 926, 927, 928, 929, 930, 931, 932, 933, 934, 935, 936, 937, 938, 939, 940, 941, 942, 943, 944, 945, 946, 947, 948, 949, 950, 951, 952, 953] (by decide +kernel) (by decide +kernel)
set_option maxRecDepth 20000 in
theorem gL_law_X9_better : GoodIn wsL_law (wsV RL 125 RX9 yX9_better wsX9_better) := goodIn_app (goodIn_of _ (by decide +kernel)) ggL_law_X9_better
set_option maxRecDepth 20000 in
theorem ggL_law_X8_lean : GoodIn wsL_law wsX8_lean := goodIn_r _ [806, 27, 449, 36, 450, 451, 452, 26, 453, 324, 506, 507, 508, 34, 509, 101, 510, 99, 511, 100, 512, 513, 514, 515, 516, 517, 326, 327, 22, 328, 73, 74, 518, 519, 520, 521, 297, 103, 298, 522, 397, 398, 399, 400, 401, 402, 403, 81, 84, 523, 294, 295, 296, 524, 525, 526, 527, 528, 330, 331, 332, 333, 334, 335, 336, 529, 530, 531, 532, 106, 533, 534, 535, 536, 537, 538, 539, 540, 541, 542, 543, 544, 545, 546, 104, 547, 548, 549, 550, 551, 552, 553, 554, 555, 556, 557, 558, 559, 107, 560, 561, 562, 563, 108, 564, 565, 566, 567, 568, 569, 570, 571, 807, 808, 809, 810, 109, 639, 393, 394, 395, 811, 812, 813, 814, 904, 905, 906, 907, 908, 909, 910, 911, 912, 913, 914, 915, 916, 973, 974, 975, 976, 978, 979, 980, 981, 982, 983, 984, 985, 986, 977, 966, 967, 968, 969, 970, 971, 972] (by decide +kernel) (by decide +kernel)
set_option maxRecDepth 20000 in
theorem gL_law_X8_lean : GoodIn wsL_law (wsV RL 126 RX8 yX8_lean wsX8_lean) := goodIn_app (goodIn_of _ (by decide +kernel)) ggL_law_X8_lean
set_option maxRecDepth 20000 in
theorem ggL_law_X9_lean : GoodIn wsL_law wsX9_lean := goodIn_r _ [818, 144, 142, 145, 143, 136, 259, 152, 458, 459, 460, 5, 461, 260, 168, 169, 170, 576, 577, 578, 579, 139, 580, 581, 582, 583, 138, 424, 425, 426, 427, 428, 429, 430, 431, 432, 349, 350, 351, 352, 128, 131, 353, 354, 355, 356, 133, 134, 584, 585, 586, 587, 588, 589, 590, 591, 592, 593, 594, 595, 596, 597, 598, 599, 600, 150, 601, 819, 820, 821, 822, 917, 918, 919, 920, 921, 922, 923, 924, 925, 926, 927, 928, 929, 930, 931, 932, 933, 934, 935, 936, 937, 938, 939, 940, 941, 942, 943, 944, 945, 946, 947, 948, 949, 950, 951, 952, 953] (by decide +kernel) (by decide +kernel)
set_option maxRecDepth 20000 in
theorem gL_law_X9_lean : GoodIn wsL_law (wsV RL 129 RX9 yX9_lean wsX9_lean) := goodIn_app (goodIn_of _ (by decide +kernel)) ggL_law_X9_lean
set_option maxRecDepth 20000 in
theorem ggL_law_X8_coins : GoodIn wsL_law wsX8_coins := goodIn_r _ [826, 27, 31, 491, 450, 451, 452, 26, 453, 324, 666, 667, 668, 2, 669, 23, 246, 670, 671, 672, 673, 466, 311, 662, 663, 664, 665, 657, 401, 402, 403, 81, 84, 653, 654, 655, 656, 658, 659, 660, 661, 904, 905, 906, 907, 908, 909, 910, 911, 912, 913, 914, 915, 916, 977, 973, 974, 975, 976, 966, 967, 968, 969, 970, 971, 972] (by decide +kernel) (by decide +kernel)
set_option maxRecDepth 20000 in
theorem gL_law_X8_coins : GoodIn wsL_law (wsV RL 130 RX8 yX8_coins wsX8_coins) := goodIn_app (goodIn_of _ (by decide +kernel)) ggL_law_X8_coins
set_option maxRecDepth 20000 in
theorem ggL_law_X9_coins : GoodIn wsL_law wsX9_coins := goodIn_r _ [830, 139, 458, 459, 460, 5, 461, 260, 168, 169, 170, 678, 679, 680, 681, 259, 429, 430, 431, 432, 136, 138, 686, 687, 688, 689, 133, 690, 691, 692, 693, 682, 683, 684, 685, 917, 918, 919, 920, 921, 922, 923, 924, 925, 926, 927, 928, 929, 930, 931, 932, 933, 934, 935, 936, 937, 938, 939, 940, 941, 942, 943, 944, 945, 946, 947, 948, 949, 950, 951, 952, 953] (by decide +kernel) (by decide +kernel)
set_option maxRecDepth 20000 in
theorem gL_law_X9_coins : GoodIn wsL_law (wsV RL 133 RX9 yX9_coins wsX9_coins) := goodIn_app (goodIn_of _ (by decide +kernel)) ggL_law_X9_coins
set_option maxRecDepth 20000 in
theorem ggL_law_X8_pays : GoodIn wsL_law wsX8_pays := goodIn_r _ [834, 44, 835, 836, 837, 838, 43, 839, 904, 905, 906, 907, 908, 909, 910, 911, 912, 913, 914, 915, 916, 991, 992] (by decide +kernel) (by decide +kernel)
set_option maxRecDepth 20000 in
theorem gL_law_X8_pays : GoodIn wsL_law (wsV RL 134 RX8 yX8_pays wsX8_pays) := goodIn_app (goodIn_of _ (by decide +kernel)) ggL_law_X8_pays
set_option maxRecDepth 20000 in
theorem ggL_law_X9_pays : GoodIn wsL_law wsX9_pays := goodIn_r _ [843, 140, 141, 168, 169, 5, 170, 844, 845, 846, 917, 918, 919, 920, 921, 922, 923, 924, 925, 926, 927, 928, 929, 930, 931, 932, 933, 934, 935, 936, 937, 938, 939, 940, 941, 942, 943, 944, 945, 946, 947, 948, 949, 950, 951, 952, 953] (by decide +kernel) (by decide +kernel)
set_option maxRecDepth 20000 in
theorem gL_law_X9_pays : GoodIn wsL_law (wsV RL 137 RX9 yX9_pays wsX9_pays) := goodIn_app (goodIn_of _ (by decide +kernel)) ggL_law_X9_pays
set_option maxRecDepth 20000 in
theorem ggL_law_X8_belief : GoodIn wsL_law wsX8_belief := goodIn_r _ [850, 44, 851, 852, 853, 43, 854, 855, 856, 857, 858, 859, 860, 861, 862, 120, 121, 863, 864, 904, 905, 906, 907, 908, 909, 910, 911, 912, 913, 914, 915, 916, 991, 992] (by decide +kernel) (by decide +kernel)
set_option maxRecDepth 20000 in
theorem gL_law_X8_belief : GoodIn wsL_law (wsV RL 138 RX8 yX8_belief wsX8_belief) := goodIn_app (goodIn_of _ (by decide +kernel)) ggL_law_X8_belief
set_option maxRecDepth 20000 in
theorem ggL_law_X9_belief : GoodIn wsL_law wsX9_belief := goodIn_r _ [868, 168, 169, 5, 170, 869, 870, 871, 872, 140, 141, 917, 918, 919, 920, 921, 922, 923, 924, 925, 926, 927, 928, 929, 930, 931, 932, 933, 934, 935, 936, 937, 938, 939, 940, 941, 942, 943, 944, 945, 946, 947, 948, 949, 950, 951, 952, 953] (by decide +kernel) (by decide +kernel)
set_option maxRecDepth 20000 in
theorem gL_law_X9_belief : GoodIn wsL_law (wsV RL 141 RX9 yX9_belief wsX9_belief) := goodIn_app (goodIn_of _ (by decide +kernel)) ggL_law_X9_belief
set_option maxRecDepth 20000 in
theorem ggL_law_X8_plan : GoodIn wsL_law wsX8_plan := goodIn_r _ [876, 877, 878, 39, 879, 793, 794, 795, 880, 881, 882, 883] (by decide +kernel) (by decide +kernel)
set_option maxRecDepth 20000 in
theorem gL_law_X8_plan : GoodIn wsL_law (wsV RL 142 RX8 yX8_plan wsX8_plan) := goodIn_app (goodIn_of _ (by decide +kernel)) ggL_law_X8_plan
set_option maxRecDepth 20000 in
theorem ggL_law_X9_plan : GoodIn wsL_law wsX9_plan := goodIn_r _ [887, 593, 168, 169, 5, 170, 800, 801, 802] (by decide +kernel) (by decide +kernel)
set_option maxRecDepth 20000 in
theorem gL_law_X9_plan : GoodIn wsL_law (wsV RL 145 RX9 yX9_plan wsX9_plan) := goodIn_app (goodIn_of _ (by decide +kernel)) ggL_law_X9_plan
set_option maxRecDepth 20000 in
theorem ggL_law_X8_told : GoodIn wsL_law wsX8_told := goodIn_r _ [891, 15, 157, 19, 248, 23, 246, 27, 247, 892, 893, 894, 2, 895, 653, 654, 655, 656, 657, 401, 402, 26, 403, 81, 84, 896, 897, 898, 899, 383, 384, 385, 386, 380, 270, 381, 271, 284, 285, 286, 22, 287, 288, 70, 71, 387, 388, 389, 390, 35, 391, 392, 393, 394, 34, 395, 99, 297, 103, 904, 905, 906, 907, 908, 909, 910, 911, 912, 913, 914, 915, 916, 954, 955, 956, 957, 958, 959, 960, 961, 962, 963, 964, 965, 966, 967, 968, 969, 970, 971, 972, 973, 974, 975, 976, 978, 979, 980, 981, 982, 983, 984, 985, 986] (by decide +kernel) (by decide +kernel)
set_option maxRecDepth 20000 in
theorem gL_law_X8_told : GoodIn wsL_law (wsV RL 146 RX8 yX8_told wsX8_told) := goodIn_app (goodIn_of _ (by decide +kernel)) ggL_law_X8_told
set_option maxRecDepth 20000 in
theorem ggL_law_X9_told : GoodIn wsL_law wsX9_told := goodIn_r _ [903, 167, 258, 259, 260, 678, 679, 680, 5, 681, 429, 430, 431, 432, 136, 138, 408, 409, 410, 411, 129, 131, 132, 130, 303, 304, 305, 306, 412, 413, 414, 415, 416, 417, 418, 419, 349, 350, 351, 352, 128, 420, 421, 422, 423, 424, 261, 262, 142, 353, 354, 355, 356, 133, 134, 917, 918, 919, 920, 921, 922, 923, 924, 925, 926, 927, 928, 929, 930, 931, 932, 933, 934, 935, 936, 937, 938, 939, 940, 941, 942, 943, 944, 945, 946, 947, 948, 949, 950, 951, 952, 953] (by decide +kernel) (by decide +kernel)
set_option maxRecDepth 20000 in
theorem gL_law_X9_told : GoodIn wsL_law (wsV RL 149 RX9 yX9_told wsX9_told) := goodIn_app (goodIn_of _ (by decide +kernel)) ggL_law_X9_told
