set_option maxRecDepth 20000 in
theorem ggL_law_X8_join : GoodIn wsL_law wsX8_join := goodIn_r _ [508, 27, 247, 45, 35, 509, 510, 511, 34, 512, 101, 513, 99, 514, 100, 515, 516, 517, 518, 519, 520, 329, 330, 22, 331, 73, 74, 521, 522, 523, 524, 297, 103, 301, 525, 400, 401, 26, 402, 327, 403, 404, 405, 406, 81, 84, 526, 294, 295, 296, 298, 299, 300, 527, 528, 529, 530, 531, 333, 334, 335, 336, 337, 338, 339, 532, 533, 534, 535, 106, 536, 537, 538, 539, 540, 541, 542, 543, 544, 545, 546, 547, 548, 549, 104, 550, 551, 552, 553, 554, 555, 556, 557, 558, 559, 560, 561, 562, 107, 563, 564, 565, 566, 108, 567, 568, 569, 570, 571, 572, 573, 574, 907, 908, 909, 910, 911, 912, 913, 914, 915, 916, 917, 918, 919, 976, 977, 978, 979, 981, 982, 983, 984, 985, 986, 987, 988, 989, 980, 969, 970, 971, 972, 973, 974, 975] (by decide +kernel) (by decide +kernel)
set_option maxRecDepth 20000 in
theorem gL_law_X8_join : GoodIn wsL_law (wsV RL 82 RX8 yX8_join wsX8_join) := goodIn_app (goodIn_of _ (by decide +kernel)) ggL_law_X8_join
set_option maxRecDepth 20000 in
theorem ggL_law_X9_join : GoodIn wsL_law wsX9_join := goodIn_r _ [578, 261, 259, 262, 260, 263, 579, 580, 581, 5, 582, 139, 583, 584, 585, 586, 138, 142, 427, 428, 429, 430, 431, 432, 433, 434, 435, 136, 352, 353, 354, 355, 128, 131, 356, 357, 358, 359, 133, 134, 587, 588, 589, 590, 143, 591, 592, 593, 594, 595, 596, 597, 598, 599, 600, 601, 602, 603, 150, 604, 920, 921, 922, 923, 924, 925, 926, 927, 928, 929, 930, 931, 932, 933, 934, 935, 936, 937, 938, 939, 940, 941, 942, 943, 944, 945, 946, 947, 948, 949, 950, 951, 952, 953, 954, 955, 956] (by decide +kernel) (by decide +kernel)
set_option maxRecDepth 20000 in
theorem gL_law_X9_join : GoodIn wsL_law (wsV RL 85 RX9 yX9_join wsX9_join) := goodIn_app (goodIn_of _ (by decide +kernel)) ggL_law_X9_join
set_option maxRecDepth 20000 in
theorem ggL_law_X8_share : GoodIn wsL_law wsX8_share := goodIn_r _ [608, 23, 35, 394, 315, 316, 317, 22, 318, 72, 319, 320, 321, 322, 288, 907, 908, 909, 910, 911, 912, 913, 914, 915, 916, 917, 918, 919, 981, 982, 983, 984, 985, 986, 987, 988, 989, 969, 970, 971, 972, 973, 974, 975] (by decide +kernel) (by decide +kernel)
set_option maxRecDepth 20000 in
theorem gL_law_X8_share : GoodIn wsL_law (wsV RL 86 RX8 yX8_share wsX8_share) := goodIn_app (goodIn_of _ (by decide +kernel)) ggL_law_X8_share
set_option maxRecDepth 20000 in
theorem ggL_law_X9_share : GoodIn wsL_law wsX9_share := goodIn_r _ [612, 344, 345, 346, 5, 347, 348, 349, 350, 351, 259, 168, 169, 170, 352, 353, 354, 355, 128, 131, 423, 424, 425, 426, 427, 261, 262, 142, 356, 357, 358, 359, 133, 134, 920, 921, 922, 923, 924, 925, 926, 927, 928, 929, 930, 931, 932, 933, 934, 935, 936, 937, 938, 939, 940, 941, 942, 943, 944, 945, 946, 947, 948, 949, 950, 951, 952, 953, 954, 955, 956] (by decide +kernel) (by decide +kernel)
set_option maxRecDepth 20000 in
theorem gL_law_X9_share : GoodIn wsL_law (wsV RL 89 RX9 yX9_share wsX9_share) := goodIn_app (goodIn_of _ (by decide +kernel)) ggL_law_X9_share
set_option maxRecDepth 20000 in
theorem ggL_law_X8_table : GoodIn wsL_law wsX8_table := goodIn_r _ [616, 27, 45, 35, 617, 453, 454, 455, 26, 456, 327, 618, 540, 34, 541, 907, 908, 909, 910, 911, 912, 913, 914, 915, 916, 917, 918, 919, 981, 982, 983, 984, 985, 986, 987, 988, 989, 976, 977, 978, 979] (by decide +kernel) (by decide +kernel)
set_option maxRecDepth 20000 in
theorem gL_law_X8_table : GoodIn wsL_law (wsV RL 90 RX8 yX8_table wsX8_table) := goodIn_app (goodIn_of _ (by decide +kernel)) ggL_law_X8_table
set_option maxRecDepth 20000 in
theorem ggL_law_X9_table : GoodIn wsL_law wsX9_table := goodIn_r _ [622, 261, 263, 143, 461, 462, 463, 5, 464, 260, 168, 169, 170, 597, 598, 599, 920, 921, 922, 923, 924, 925, 926, 927, 928, 929, 930, 931, 932, 933, 934, 935, 936, 937, 938, 939, 940, 941, 942, 943, 944, 945, 946, 947, 948, 949, 950, 951, 952, 953, 954, 955, 956] (by decide +kernel) (by decide +kernel)
set_option maxRecDepth 20000 in
theorem gL_law_X9_table : GoodIn wsL_law (wsV RL 94 RX9 yX9_table wsX9_table) := goodIn_app (goodIn_of _ (by decide +kernel)) ggL_law_X9_table
set_option maxRecDepth 20000 in
theorem ggL_law_X8_next : GoodIn wsL_law wsX8_next := goodIn_r _ [626, 45, 27, 247, 46, 47, 48, 627, 628, 629, 2, 630, 23, 246, 328, 329, 330, 22, 331, 73, 74, 386, 387, 388, 389, 383, 19, 248, 270, 384, 271, 284, 285, 286, 287, 288, 70, 71, 390, 391, 392, 393, 35, 394, 395, 396, 397, 34, 398, 99, 297, 103, 631, 632, 633, 634, 452, 469, 635, 636, 637, 638, 104, 639, 640, 557, 641, 550, 539, 540, 541, 642, 907, 908, 909, 910, 911, 912, 913, 914, 915, 916, 917, 918, 919, 976, 977, 978, 979, 969, 970, 971, 972, 973, 974, 975, 964, 965, 966, 967, 968, 981, 982, 983, 984, 985, 986, 987, 988, 989] (by decide +kernel) (by decide +kernel)
set_option maxRecDepth 20000 in
theorem gL_law_X8_next : GoodIn wsL_law (wsV RL 95 RX8 yX8_next wsX8_next) := goodIn_app (goodIn_of _ (by decide +kernel)) ggL_law_X8_next
set_option maxRecDepth 20000 in
theorem ggL_law_X9_next : GoodIn wsL_law wsX9_next := goodIn_r _ [646, 261, 263, 260, 259, 136, 138, 168, 169, 5, 170, 356, 357, 358, 359, 133, 134, 411, 412, 413, 414, 258, 129, 131, 132, 130, 306, 307, 308, 309, 415, 416, 417, 418, 419, 420, 421, 422, 352, 353, 354, 355, 128, 423, 424, 425, 426, 427, 262, 142, 647, 648, 649, 650, 143, 591, 597, 598, 599, 920, 921, 922, 923, 924, 925, 926, 927, 928, 929, 930, 931, 932, 933, 934, 935, 936, 937, 938, 939, 940, 941, 942, 943, 944, 945, 946, 947, 948, 949, 950, 951, 952, 953, 954, 955, 956] (by decide +kernel) (by decide +kernel)
set_option maxRecDepth 20000 in
theorem gL_law_X9_next : GoodIn wsL_law (wsV RL 98 RX9 yX9_next wsX9_next) := goodIn_app (goodIn_of _ (by decide +kernel)) ggL_law_X9_next
set_option maxRecDepth 20000 in
theorem ggL_law_X8_right : GoodIn wsL_law wsX8_right := goodIn_r _ [654, 27, 655, 453, 454, 455, 26, 456, 327, 656, 657, 658, 2, 659, 23, 246, 660, 404, 405, 406, 81, 84, 661, 662, 663, 664, 665, 666, 667, 668, 314, 669, 670, 671, 672, 673, 674, 675, 676, 469, 907, 908, 909, 910, 911, 912, 913, 914, 915, 916, 917, 918, 919, 976, 977, 978, 979, 969, 970, 971, 972, 973, 974, 975] (by decide +kernel) (by decide +kernel)
set_option maxRecDepth 20000 in
theorem gL_law_X8_right : GoodIn wsL_law (wsV RL 99 RX8 yX8_right wsX8_right) := goodIn_app (goodIn_of _ (by decide +kernel)) ggL_law_X8_right
set_option maxRecDepth 20000 in
theorem ggL_law_X9_right : GoodIn wsL_law wsX9_right := goodIn_r _ [680, 137, 461, 462, 463, 5, 464, 260, 168, 169, 170, 681, 682, 683, 684, 259, 432, 433, 434, 435, 136, 138, 685, 686, 687, 688, 133, 689, 690, 691, 692, 693, 694, 695, 696, 920, 921, 922, 923, 924, 925, 926, 927, 928, 929, 930, 931, 932, 933, 934, 935, 936, 937, 938, 939, 940, 941, 942, 943, 944, 945, 946, 947, 948, 949, 950, 951, 952, 953, 954, 955, 956] (by decide +kernel) (by decide +kernel)
set_option maxRecDepth 20000 in
theorem gL_law_X9_right : GoodIn wsL_law (wsV RL 102 RX9 yX9_right wsX9_right) := goodIn_app (goodIn_of _ (by decide +kernel)) ggL_law_X9_right
set_option maxRecDepth 20000 in
theorem ggL_law_X8_guessing : GoodIn wsL_law wsX8_guessing := goodIn_r _ [700, 27, 701, 702, 40, 23, 246, 385, 453, 454, 455, 26, 456, 327, 703, 704, 705, 39, 706, 707, 115, 665, 666, 667, 2, 668, 314, 660, 404, 405, 406, 81, 84, 708, 709, 710, 711, 669, 670, 671, 672, 673, 674, 675, 676, 469, 712, 713, 714, 715, 716, 717, 718, 719, 720, 114, 721, 722, 723, 724, 907, 908, 909, 910, 911, 912, 913, 914, 915, 916, 917, 918, 919, 969, 970, 971, 972, 973, 974, 975, 976, 977, 978, 979, 990, 991, 992, 993] (by decide +kernel) (by decide +kernel)
set_option maxRecDepth 20000 in
theorem gL_law_X8_guessing : GoodIn wsL_law (wsV RL 103 RX8 yX8_guessing wsX8_guessing) := goodIn_app (goodIn_of _ (by decide +kernel)) ggL_law_X8_guessing
set_option maxRecDepth 20000 in
theorem ggL_law_X9_guessing : GoodIn wsL_law wsX9_guessing := goodIn_r _ [728, 729, 730, 259, 133, 461, 462, 463, 5, 464, 260, 168, 169, 170, 731, 732, 733, 734, 151, 735, 736, 432, 433, 434, 435, 136, 138, 352, 353, 354, 355, 128, 131, 737, 738, 739, 740, 689, 690, 691, 692, 693, 694, 695, 696, 741, 742, 743, 744, 745, 746, 747, 748, 749, 750, 920, 921, 922, 923, 924, 925, 926, 927, 928, 929, 930, 931, 932, 933, 934, 935, 936, 937, 938, 939, 940, 941, 942, 943, 944, 945, 946, 947, 948, 949, 950, 951, 952, 953, 954, 955, 956] (by decide +kernel) (by decide +kernel)
set_option maxRecDepth 20000 in
theorem gL_law_X9_guessing : GoodIn wsL_law (wsV RL 107 RX9 yX9_guessing wsX9_guessing) := goodIn_app (goodIn_of _ (by decide +kernel)) ggL_law_X9_guessing
set_option maxRecDepth 20000 in
theorem ggL_law_X8_copying : GoodIn wsL_law wsX8_copying := goodIn_r _ [754, 27, 701, 702, 40, 23, 246, 755, 385, 469, 453, 454, 455, 26, 456, 327, 703, 704, 705, 39, 706, 707, 115, 660, 404, 405, 406, 81, 84, 708, 709, 710, 711, 712, 713, 714, 715, 716, 717, 718, 719, 720, 114, 721, 722, 723, 724, 907, 908, 909, 910, 911, 912, 913, 914, 915, 916, 917, 918, 919, 969, 970, 971, 972, 973, 974, 975, 990, 991, 992, 993, 976, 977, 978, 979] (by decide +kernel) (by decide +kernel)
set_option maxRecDepth 20000 in
theorem gL_law_X8_copying : GoodIn wsL_law (wsV RL 108 RX8 yX8_copying wsX8_copying) := goodIn_app (goodIn_of _ (by decide +kernel)) ggL_law_X8_copying
set_option maxRecDepth 20000 in
theorem ggL_law_X9_copying : GoodIn wsL_law wsX9_copying := goodIn_r _ [759, 729, 730, 259, 736, 138, 461, 462, 463, 5, 464, 260, 168, 169, 170, 731, 732, 733, 734, 151, 735, 432, 433, 434, 435, 136, 352, 353, 354, 355, 128, 131, 737, 738, 739, 740, 741, 742, 743, 744, 745, 746, 747, 748, 749, 750, 920, 921, 922, 923, 924, 925, 926, 927, 928, 929, 930, 931, 932, 933, 934, 935, 936, 937, 938, 939, 940, 941, 942, 943, 944, 945, 946, 947, 948, 949, 950, 951, 952, 953, 954, 955, 956] (by decide +kernel) (by decide +kernel)
set_option maxRecDepth 20000 in
theorem gL_law_X9_copying : GoodIn wsL_law (wsV RL 112 RX9 yX9_copying wsX9_copying) := goodIn_app (goodIn_of _ (by decide +kernel)) ggL_law_X9_copying
set_option maxRecDepth 20000 in
theorem ggL_law_X8_misread : GoodIn wsL_law wsX8_misread := goodIn_r _ [763, 23, 246, 314, 373, 764, 765, 766, 2, 767, 385, 27, 768, 528, 529, 26, 530, 327, 84, 403, 404, 405, 406, 81, 907, 908, 909, 910, 911, 912, 913, 914, 915, 916, 917, 918, 919, 969, 970, 971, 972, 973, 974, 975, 976, 977, 978, 979] (by decide +kernel) (by decide +kernel)
set_option maxRecDepth 20000 in
theorem gL_law_X8_misread : GoodIn wsL_law (wsV RL 113 RX8 yX8_misread wsX8_misread) := goodIn_app (goodIn_of _ (by decide +kernel)) ggL_law_X8_misread
set_option maxRecDepth 20000 in
theorem ggL_law_X9_misread : GoodIn wsL_law wsX9_misread := goodIn_r _ [772, 259, 133, 260, 138, 135, 168, 169, 5, 170, 352, 353, 354, 355, 128, 131, 432, 433, 434, 435, 136, 920, 921, 922, 923, 924, 925, 926, 927, 928, 929, 930, 931, 932, 933, 934, 935, 936, 937, 938, 939, 940, 941, 942, 943, 944, 945, 946, 947, 948, 949, 950, 951, 952, 953, 954, 955, 956] (by decide +kernel) (by decide +kernel)
set_option maxRecDepth 20000 in
theorem gL_law_X9_misread : GoodIn wsL_law (wsV RL 116 RX9 yX9_misread wsX9_misread) := goodIn_app (goodIn_of _ (by decide +kernel)) ggL_law_X9_misread
set_option maxRecDepth 20000 in
theorem ggL_law_X8_deal : GoodIn wsL_law wsX8_deal := goodIn_r _ [776, 777, 27, 247, 778, 779, 655, 780, 907, 908, 909, 910, 911, 912, 913, 914, 915, 916, 917, 918, 919, 976, 977, 978, 979] (by decide +kernel) (by decide +kernel)
set_option maxRecDepth 20000 in
theorem gL_law_X8_deal : GoodIn wsL_law (wsV RL 117 RX8 yX8_deal wsX8_deal) := goodIn_app (goodIn_of _ (by decide +kernel)) ggL_law_X8_deal
