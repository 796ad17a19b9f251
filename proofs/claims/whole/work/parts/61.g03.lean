set_option maxRecDepth 20000 in
theorem ggL_law_X9_deal : GoodIn wsL_law wsX9_deal := goodIn_r _ [784, 427, 260, 785, 786, 137, 787, 168, 169, 5, 170, 920, 921, 922, 923, 924, 925, 926, 927, 928, 929, 930, 931, 932, 933, 934, 935, 936, 937, 938, 939, 940, 941, 942, 943, 944, 945, 946, 947, 948, 949, 950, 951, 952, 953, 954, 955, 956] (by decide +kernel) (by decide +kernel)
set_option maxRecDepth 20000 in
theorem gL_law_X9_deal : GoodIn wsL_law (wsV RL 120 RX9 yX9_deal wsX9_deal) := goodIn_app (goodIn_of _ (by decide +kernel)) ggL_law_X9_deal
set_option maxRecDepth 20000 in
theorem ggL_law_X8_better : GoodIn wsL_law wsX8_better := goodIn_r _ [791, 702, 27, 247, 23, 246, 655, 40, 665, 666, 667, 2, 668, 314, 660, 404, 405, 26, 406, 81, 84, 673, 674, 675, 676, 469, 792, 793, 794, 39, 795, 796, 797, 798, 716, 717, 718, 719, 720, 114, 721, 722, 723, 724, 907, 908, 909, 910, 911, 912, 913, 914, 915, 916, 917, 918, 919, 976, 977, 978, 979, 969, 970, 971, 972, 973, 974, 975, 990, 991, 992, 993] (by decide +kernel) (by decide +kernel)
set_option maxRecDepth 20000 in
theorem gL_law_X8_better : GoodIn wsL_law (wsV RL 121 RX8 yX8_better wsX8_better) := goodIn_app (goodIn_of _ (by decide +kernel)) ggL_law_X8_better
set_option maxRecDepth 20000 in
theorem ggL_law_X9_better : GoodIn wsL_law wsX9_better := goodIn_r _ [802, 730, 260, 259, 133, 137, 168, 169, 5, 170, 432, 433, 434, 435, 136, 138, 693, 694, 695, 696, 803, 804, 805, 745, 746, 747, 748, 749, 750, 920, 921, 922, 923, 924, 925, 926, 927, 928, 929, 930, 931, 932, 933, 934, 935, 936, 937, 938, 939, 940, 941, 942, 943, 944, 945, 946, 947, 948, 949, 950, 951, 952, 953, 954, 955, 956] (by decide +kernel) (by decide +kernel)
set_option maxRecDepth 20000 in
theorem gL_law_X9_better : GoodIn wsL_law (wsV RL 125 RX9 yX9_better wsX9_better) := goodIn_app (goodIn_of _ (by decide +kernel)) ggL_law_X9_better
set_option maxRecDepth 20000 in
theorem ggL_law_X8_lean : GoodIn wsL_law wsX8_lean := goodIn_r _ [809, 27, 452, 36, 453, 454, 455, 26, 456, 327, 509, 510, 511, 34, 512, 101, 513, 99, 514, 100, 515, 516, 517, 518, 519, 520, 329, 330, 22, 331, 73, 74, 521, 522, 523, 524, 297, 103, 301, 525, 400, 401, 402, 403, 404, 405, 406, 81, 84, 526, 294, 295, 296, 298, 299, 300, 527, 528, 529, 530, 531, 333, 334, 335, 336, 337, 338, 339, 532, 533, 534, 535, 106, 536, 537, 538, 539, 540, 541, 542, 543, 544, 545, 546, 547, 548, 549, 104, 550, 551, 552, 553, 554, 555, 556, 557, 558, 559, 560, 561, 562, 107, 563, 564, 565, 566, 108, 567, 568, 569, 570, 571, 572, 573, 574, 810, 811, 812, 813, 109, 642, 396, 397, 398, 814, 815, 816, 817, 907, 908, 909, 910, 911, 912, 913, 914, 915, 916, 917, 918, 919, 976, 977, 978, 979, 981, 982, 983, 984, 985, 986, 987, 988, 989, 980, 969, 970, 971, 972, 973, 974, 975] (by decide +kernel) (by decide +kernel)
set_option maxRecDepth 20000 in
theorem gL_law_X8_lean : GoodIn wsL_law (wsV RL 126 RX8 yX8_lean wsX8_lean) := goodIn_app (goodIn_of _ (by decide +kernel)) ggL_law_X8_lean
set_option maxRecDepth 20000 in
theorem ggL_law_X9_lean : GoodIn wsL_law wsX9_lean := goodIn_r _ [821, 144, 142, 145, 143, 136, 259, 152, 461, 462, 463, 5, 464, 260, 168, 169, 170, 579, 580, 581, 582, 139, 583, 584, 585, 586, 138, 427, 428, 429, 430, 431, 432, 433, 434, 435, 352, 353, 354, 355, 128, 131, 356, 357, 358, 359, 133, 134, 587, 588, 589, 590, 591, 592, 593, 594, 595, 596, 597, 598, 599, 600, 601, 602, 603, 150, 604, 822, 823, 824, 825, 920, 921, 922, 923, 924, 925, 926, 927, 928, 929, 930, 931, 932, 933, 934, 935, 936, 937, 938, 939, 940, 941, 942, 943, 944, 945, 946, 947, 948, 949, 950, 951, 952, 953, 954, 955, 956] (by decide +kernel) (by decide +kernel)
set_option maxRecDepth 20000 in
theorem gL_law_X9_lean : GoodIn wsL_law (wsV RL 129 RX9 yX9_lean wsX9_lean) := goodIn_app (goodIn_of _ (by decide +kernel)) ggL_law_X9_lean
set_option maxRecDepth 20000 in
theorem ggL_law_X8_coins : GoodIn wsL_law wsX8_coins := goodIn_r _ [829, 27, 31, 494, 453, 454, 455, 26, 456, 327, 669, 670, 671, 2, 672, 23, 246, 673, 674, 675, 676, 469, 314, 665, 666, 667, 668, 660, 404, 405, 406, 81, 84, 656, 657, 658, 659, 661, 662, 663, 664, 907, 908, 909, 910, 911, 912, 913, 914, 915, 916, 917, 918, 919, 980, 976, 977, 978, 979, 969, 970, 971, 972, 973, 974, 975] (by decide +kernel) (by decide +kernel)
set_option maxRecDepth 20000 in
theorem gL_law_X8_coins : GoodIn wsL_law (wsV RL 130 RX8 yX8_coins wsX8_coins) := goodIn_app (goodIn_of _ (by decide +kernel)) ggL_law_X8_coins
set_option maxRecDepth 20000 in
theorem ggL_law_X9_coins : GoodIn wsL_law wsX9_coins := goodIn_r _ [833, 139, 461, 462, 463, 5, 464, 260, 168, 169, 170, 681, 682, 683, 684, 259, 432, 433, 434, 435, 136, 138, 689, 690, 691, 692, 133, 693, 694, 695, 696, 685, 686, 687, 688, 920, 921, 922, 923, 924, 925, 926, 927, 928, 929, 930, 931, 932, 933, 934, 935, 936, 937, 938, 939, 940, 941, 942, 943, 944, 945, 946, 947, 948, 949, 950, 951, 952, 953, 954, 955, 956] (by decide +kernel) (by decide +kernel)
set_option maxRecDepth 20000 in
theorem gL_law_X9_coins : GoodIn wsL_law (wsV RL 133 RX9 yX9_coins wsX9_coins) := goodIn_app (goodIn_of _ (by decide +kernel)) ggL_law_X9_coins
set_option maxRecDepth 20000 in
theorem ggL_law_X8_pays : GoodIn wsL_law wsX8_pays := goodIn_r _ [837, 44, 838, 839, 840, 841, 43, 842, 907, 908, 909, 910, 911, 912, 913, 914, 915, 916, 917, 918, 919, 994, 995] (by decide +kernel) (by decide +kernel)
set_option maxRecDepth 20000 in
theorem gL_law_X8_pays : GoodIn wsL_law (wsV RL 134 RX8 yX8_pays wsX8_pays) := goodIn_app (goodIn_of _ (by decide +kernel)) ggL_law_X8_pays
set_option maxRecDepth 20000 in
theorem ggL_law_X9_pays : GoodIn wsL_law wsX9_pays := goodIn_r _ [846, 140, 141, 168, 169, 5, 170, 847, 848, 849, 920, 921, 922, 923, 924, 925, 926, 927, 928, 929, 930, 931, 932, 933, 934, 935, 936, 937, 938, 939, 940, 941, 942, 943, 944, 945, 946, 947, 948, 949, 950, 951, 952, 953, 954, 955, 956] (by decide +kernel) (by decide +kernel)
set_option maxRecDepth 20000 in
theorem gL_law_X9_pays : GoodIn wsL_law (wsV RL 137 RX9 yX9_pays wsX9_pays) := goodIn_app (goodIn_of _ (by decide +kernel)) ggL_law_X9_pays
set_option maxRecDepth 20000 in
theorem ggL_law_X8_belief : GoodIn wsL_law wsX8_belief := goodIn_r _ [853, 44, 854, 855, 856, 43, 857, 858, 859, 860, 861, 862, 863, 864, 865, 120, 121, 866, 867, 907, 908, 909, 910, 911, 912, 913, 914, 915, 916, 917, 918, 919, 994, 995] (by decide +kernel) (by decide +kernel)
set_option maxRecDepth 20000 in
theorem gL_law_X8_belief : GoodIn wsL_law (wsV RL 138 RX8 yX8_belief wsX8_belief) := goodIn_app (goodIn_of _ (by decide +kernel)) ggL_law_X8_belief
set_option maxRecDepth 20000 in
theorem ggL_law_X9_belief : GoodIn wsL_law wsX9_belief := goodIn_r _ [871, 168, 169, 5, 170, 872, 873, 874, 875, 140, 141, 920, 921, 922, 923, 924, 925, 926, 927, 928, 929, 930, 931, 932, 933, 934, 935, 936, 937, 938, 939, 940, 941, 942, 943, 944, 945, 946, 947, 948, 949, 950, 951, 952, 953, 954, 955, 956] (by decide +kernel) (by decide +kernel)
set_option maxRecDepth 20000 in
theorem gL_law_X9_belief : GoodIn wsL_law (wsV RL 141 RX9 yX9_belief wsX9_belief) := goodIn_app (goodIn_of _ (by decide +kernel)) ggL_law_X9_belief
set_option maxRecDepth 20000 in
theorem ggL_law_X8_plan : GoodIn wsL_law wsX8_plan := goodIn_r _ [879, 880, 881, 39, 882, 796, 797, 798, 883, 884, 885, 886] (by decide +kernel) (by decide +kernel)
set_option maxRecDepth 20000 in
theorem gL_law_X8_plan : GoodIn wsL_law (wsV RL 142 RX8 yX8_plan wsX8_plan) := goodIn_app (goodIn_of _ (by decide +kernel)) ggL_law_X8_plan
set_option maxRecDepth 20000 in
theorem ggL_law_X9_plan : GoodIn wsL_law wsX9_plan := goodIn_r _ [890, 596, 168, 169, 5, 170, 803, 804, 805] (by decide +kernel) (by decide +kernel)
set_option maxRecDepth 20000 in
theorem gL_law_X9_plan : GoodIn wsL_law (wsV RL 145 RX9 yX9_plan wsX9_plan) := goodIn_app (goodIn_of _ (by decide +kernel)) ggL_law_X9_plan
set_option maxRecDepth 20000 in
theorem ggL_law_X8_told : GoodIn wsL_law wsX8_told := goodIn_r _ [894, 15, 157, 19, 248, 23, 246, 27, 247, 895, 896, 897, 2, 898, 656, 657, 658, 659, 660, 404, 405, 26, 406, 81, 84, 899, 900, 901, 902, 386, 387, 388, 389, 383, 270, 384, 271, 284, 285, 286, 22, 287, 288, 70, 71, 390, 391, 392, 393, 35, 394, 395, 396, 397, 34, 398, 99, 297, 103, 907, 908, 909, 910, 911, 912, 913, 914, 915, 916, 917, 918, 919, 957, 958, 959, 960, 961, 962, 963, 964, 965, 966, 967, 968, 969, 970, 971, 972, 973, 974, 975, 976, 977, 978, 979, 981, 982, 983, 984, 985, 986, 987, 988, 989] (by decide +kernel) (by decide +kernel)
set_option maxRecDepth 20000 in
theorem gL_law_X8_told : GoodIn wsL_law (wsV RL 146 RX8 yX8_told wsX8_told) := goodIn_app (goodIn_of _ (by decide +kernel)) ggL_law_X8_told
set_option maxRecDepth 20000 in
theorem ggL_law_X9_told : GoodIn wsL_law wsX9_told := goodIn_r _ [906, 167, 258, 259, 260, 681, 682, 683, 5, 684, 432, 433, 434, 435, 136, 138, 411, 412, 413, 414, 129, 131, 132, 130, 306, 307, 308, 309, 415, 416, 417, 418, 419, 420, 421, 422, 352, 353, 354, 355, 128, 423, 424, 425, 426, 427, 261, 262, 142, 356, 357, 358, 359, 133, 134, 920, 921, 922, 923, 924, 925, 926, 927, 928, 929, 930, 931, 932, 933, 934, 935, 936, 937, 938, 939, 940, 941, 942, 943, 944, 945, 946, 947, 948, 949, 950, 951, 952, 953, 954, 955, 956] (by decide +kernel) (by decide +kernel)
set_option maxRecDepth 20000 in
theorem gL_law_X9_told : GoodIn wsL_law (wsV RL 149 RX9 yX9_told wsX9_told) := goodIn_app (goodIn_of _ (by decide +kernel)) ggL_law_X9_told
