set_option maxRecDepth 20000 in
theorem ggL_law_X8_join : GoodIn wsL_law wsX8_join := goodIn_r _ [505, 27, 247, 45, 35, 506, 507, 508, 34, 509, 101, 510, 99, 511, 100, 512, 513, 514, 515, 516, 517, 326, 327, 22, 328, 73, 74, 518, 519, 520, 521, 297, 103, 298, 522, 397, 398, 26, 399, 324, 400, 401, 402, 403, 81, 84, 523, 294, 295, 296, 524, 525, 526, 527, 528, 330, 331, 332, 333, 334, 335, 336, 529, 530, 531, 532, 106, 533, 534, 535, 536, 537, 538, 539, 540, 541, 542, 543, 544, 545, 546, 104, 547, 548, 549, 550, 551, 552, 553, 554, 555, 556, 557, 558, 559, 107, 560, 561, 562, 563, 108, 564, 565, 566, 567, 568, 569, 570, 571, 904, 905, 906, 907, 908, 909, 910, 911, 912, 913, 914, 915, 916, 973, 974, 975, 976, 978, 979, 980, 981, 982, 983, 984, 985, 986, 977, 966, 967, 968, 969, 970, 971, 972] (by decide +kernel) (by decide +kernel)
set_option maxRecDepth 20000 in
theorem gL_law_X8_join : GoodIn wsL_law (wsV RL 82 RX8 yX8_join wsX8_join) := goodIn_app (goodIn_of _ (by decide +kernel)) ggL_law_X8_join
set_option maxRecDepth 20000 in
theorem ggL_law_X9_join : GoodIn wsL_law wsX9_join := goodIn_r _ [575, 261, 259, 262, 260, 263, 576, 577, 578, 5, 579, 139, 580, 581, 582, 583, 138, 142, 424, 425, 426, 427, 428, 429, 430, 431, 432, 136, 349, 350, 351, 352, 128, 131, 353, 354, 355, 356, 133, 134, 584, 585, 586, 587, 143, 588, 589, 590, 591, 592, 593, 594, 595, 596, 597, 598, 599, 600, 150, 601, 917, 918, 919, 920, 921, 922, 923, 924, 925, 926, 927, 928, 929, 930, 931, 932, 933, 934, 935, 936, 937, 938, 939, 940, 941, 942, 943, 944, 945, 946, 947, 948, 949, 950, 951, 952, 953] (by decide +kernel) (by decide +kernel)
set_option maxRecDepth 20000 in
theorem gL_law_X9_join : GoodIn wsL_law (wsV RL 85 RX9 yX9_join wsX9_join) := goodIn_app (goodIn_of _ (by decide +kernel)) ggL_law_X9_join
set_option maxRecDepth 20000 in
theorem ggL_law_X8_share : GoodIn wsL_law wsX8_share := goodIn_r _ [605, 23, 35, 391, 312, 313, 314, 22, 315, 72, 316, 317, 318, 319, 288, 904, 905, 906, 907, 908, 909, 910, 911, 912, 913, 914, 915, 916, 978, 979, 980, 981, 982, 983, 984, 985, 986, 966, 967, 968, 969, 970, 971, 972] (by decide +kernel) (by decide +kernel)
set_option maxRecDepth 20000 in
theorem gL_law_X8_share : GoodIn wsL_law (wsV RL 86 RX8 yX8_share wsX8_share) := goodIn_app (goodIn_of _ (by decide +kernel)) ggL_law_X8_share
set_option maxRecDepth 20000 in
theorem ggL_law_X9_share : GoodIn wsL_law wsX9_share := goodIn_r _ [609, 341, 342, 343, 5, 344, 345, 346, 347, 348, 259, 168, 169, 170, 349, 350, 351, 352, 128, 131, 420, 421, 422, 423, 424, 261, 262, 142, 353, 354, 355, 356, 133, 134, 917, 918, 919, 920, 921, 922, 923, 924, 925, 926, 927, 928, 929, 930, 931, 932, 933, 934, 935, 936, 937, 938, 939, 940, 941, 942, 943, 944, 945, 946, 947, 948, 949, 950, 951, 952, 953] (by decide +kernel) (by decide +kernel)
set_option maxRecDepth 20000 in
theorem gL_law_X9_share : GoodIn wsL_law (wsV RL 89 RX9 yX9_share wsX9_share) := goodIn_app (goodIn_of _ (by decide +kernel)) ggL_law_X9_share
set_option maxRecDepth 20000 in
theorem ggL_law_X8_table : GoodIn wsL_law wsX8_table := goodIn_r _ [613, 27, 45, 35, 614, 450, 451, 452, 26, 453, 324, 615, 537, 34, 538, 904, 905, 906, 907, 908, 909, 910, 911, 912, 913, 914, 915, 916, 978, 979, 980, 981, 982, 983, 984, 985, 986, 973, 974, 975, 976] (by decide +kernel) (by decide +kernel)
set_option maxRecDepth 20000 in
theorem gL_law_X8_table : GoodIn wsL_law (wsV RL 90 RX8 yX8_table wsX8_table) := goodIn_app (goodIn_of _ (by decide +kernel)) ggL_law_X8_table
set_option maxRecDepth 20000 in
theorem ggL_law_X9_table : GoodIn wsL_law wsX9_table := goodIn_r _ [619, 261, 263, 143, 458, 459, 460, 5, 461, 260, 168, 169, 170, 594, 595, 596, 917, 918, 919, 920, 921, 922, 923, 924, 925, 926, 927, 928, 929, 930, 931, 932, 933, 934, 935, 936, 937, 938, 939, 940, 941, 942, 943, 944, 945, 946, 947, 948, 949, 950, 951, 952, 953] (by decide +kernel) (by decide +kernel)
set_option maxRecDepth 20000 in
theorem gL_law_X9_table : GoodIn wsL_law (wsV RL 94 RX9 yX9_table wsX9_table) := goodIn_app (goodIn_of _ (by decide +kernel)) ggL_law_X9_table
set_option maxRecDepth 20000 in
theorem ggL_law_X8_next : GoodIn wsL_law wsX8_next := goodIn_r _ [623, 45, 27, 247, 46, 47, 48, 624, 625, 626, 2, 627, 23, 246, 325, 326, 327, 22, 328, 73, 74, 383, 384, 385, 386, 380, 19, 248, 270, 381, 271, 284, 285, 286, 287, 288, 70, 71, 387, 388, 389, 390, 35, 391, 392, 393, 394, 34, 395, 99, 297, 103, 628, 629, 630, 631, 449, 466, 632, 633, 634, 635, 104, 636, 637, 554, 638, 547, 536, 537, 538, 639, 904, 905, 906, 907, 908, 909, 910, 911, 912, 913, 914, 915, 916, 973, 974, 975, 976, 966, 967, 968, 969, 970, 971, 972, 961, 962, 963, 964, 965, 978, 979, 980, 981, 982, 983, 984, 985, 986] (by decide +kernel) (by decide +kernel)
set_option maxRecDepth 20000 in
theorem gL_law_X8_next : GoodIn wsL_law (wsV RL 95 RX8 yX8_next wsX8_next) := goodIn_app (goodIn_of _ (by decide +kernel)) ggL_law_X8_next
set_option maxRecDepth 20000 in
theorem ggL_law_X9_next : GoodIn wsL_law wsX9_next := goodIn_r _ [643, 261, 263, 260, 259, 136, 138, 168, 169, 5, 170, 353, 354, 355, 356, 133, 134, 408, 409, 410, 411, 258, 129, 131, 132, 130, 303, 304, 305, 306, 412, 413, 414, 415, 416, 417, 418, 419, 349, 350, 351, 352, 128, 420, 421, 422, 423, 424, 262, 142, 644, 645, 646, 647, 143, 588, 594, 595, 596, 917, 918, 919, 920, 921, 922, 923, 924, 925, 926, 927, 928, 929, 930, 931, 932, 933, 934, 935, 936, 937, 938, 939, 940, 941, 942, 943, 944, 945, 946, 947, 948, 949, 950, 951, 952, 953] (by decide +kernel) (by decide +kernel)
set_option maxRecDepth 20000 in
theorem gL_law_X9_next : GoodIn wsL_law (wsV RL 98 RX9 yX9_next wsX9_next) := goodIn_app (goodIn_of _ (by decide +kernel)) ggL_law_X9_next
set_option maxRecDepth 20000 in
theorem ggL_law_X8_right : GoodIn wsL_law wsX8_right := goodIn_r _ [651, 27, 652, 450, 451, 452, 26, 453, 324, 653, 654, 655, 2, 656, 23, 246, 657, 401, 402, 403, 81, 84, 658, 659, 660, 661, 662, 663, 664, 665, 311, 666, 667, 668, 669, 670, 671, 672, 673, 466, 904, 905, 906, 907, 908, 909, 910, 911, 912, 913, 914, 915, 916, 973, 974, 975, 976, 966, 967, 968, 969, 970, 971, 972] (by decide +kernel) (by decide +kernel)
set_option maxRecDepth 20000 in
theorem gL_law_X8_right : GoodIn wsL_law (wsV RL 99 RX8 yX8_right wsX8_right) := goodIn_app (goodIn_of _ (by decide +kernel)) ggL_law_X8_right
set_option maxRecDepth 20000 in
theorem ggL_law_X9_right : GoodIn wsL_law wsX9_right := goodIn_r _ [677, 137, 458, 459, 460, 5, 461, 260, 168, 169, 170, 678, 679, 680, 681, 259, 429, 430, 431, 432, 136, 138, 682, 683, 684, 685, 133, 686, 687, 688, 689, 690, 691, 692, 693, 917, 918, 919, 920, 921, 922, 923, 924, 925, 926, 927, 928, 929, 930, 931, 932, 933, 934, 935, 936, 937, 938, 939, 940, 941, 942, 943, 944, 945, 946, 947, 948, 949, 950, 951, 952, 953] (by decide +kernel) (by decide +kernel)
set_option maxRecDepth 20000 in
theorem gL_law_X9_right : GoodIn wsL_law (wsV RL 102 RX9 yX9_right wsX9_right) := goodIn_app (goodIn_of _ (by decide +kernel)) ggL_law_X9_right
set_option maxRecDepth 20000 in
theorem ggL_law_X8_guessing : GoodIn wsL_law wsX8_guessing := goodIn_r _ [697, 27, 698, 699, 40, 23, 246, 382, 450, 451, 452, 26, 453, 324, 700, 701, 702, 39, 703, 704, 115, 662, 663, 664, 2, 665, 311, 657, 401, 402, 403, 81, 84, 705, 706, 707, 708, 666, 667, 668, 669, 670, 671, 672, 673, 466, 709, 710, 711, 712, 713, 714, 715, 716, 717, 114, 718, 719, 720, 721, 904, 905, 906, 907, 908, 909, 910, 911, 912, 913, 914, 915, 916, 966, 967, 968, 969, 970, 971, 972, 973, 974, 975, 976, 987, 988, 989, 990] (by decide +kernel) (by decide +kernel)
set_option maxRecDepth 20000 in
theorem gL_law_X8_guessing : GoodIn wsL_law (wsV RL 103 RX8 yX8_guessing wsX8_guessing) := goodIn_app (goodIn_of _ (by decide +kernel)) ggL_law_X8_guessing
set_option maxRecDepth 20000 in
theorem ggL_law_X9_guessing : GoodIn wsL_law wsX9_guessing := goodIn_r _ [725, 726, 727, 259, 133, 458, 459, 460, 5, 461, 260, 168, 169, 170, 728, 729, 730, 731, 151, 732, 733, 429, 430, 431, 432, 136, 138, 349, 350, 351, 352, 128, 131, 734, 735, 736, 737, 686, 687, 688, 689, 690, 691, 692, 693, 738, 739, 740, 741, 742, 743, 744, 745, 746, 747, 917, 918, 919, 920, 921, 922, 923, 924, 925, 926, 927, 928, 929, 930, 931, 932, 933, 934, 935, 936, 937, 938, 939, 940, 941, 942, 943, 944, 945, 946, 947, 948, 949, 950, 951, 952, 953] (by decide +kernel) (by decide +kernel)
set_option maxRecDepth 20000 in
theorem gL_law_X9_guessing : GoodIn wsL_law (wsV RL 107 RX9 yX9_guessing wsX9_guessing) := goodIn_app (goodIn_of _ (by decide +kernel)) ggL_law_X9_guessing
set_option maxRecDepth 20000 in
theorem ggL_law_X8_copying : GoodIn wsL_law wsX8_copying := goodIn_r _ [751, 27, 698, 699, 40, 23, 246, 752, 382, 466, 450, 451, 452, 26, 453, 324, 700, 701, 702, 39, 703, 704, 115, 657, 401, 402, 403, 81, 84, 705, 706, 707, 708, 709, 710, 711, 712, 713, 714, 715, 716, 717, 114, 718, 719, 720, 721, 904, 905, 906, 907, 908, 909, 910, 911, 912, 913, 914, 915, 916, 966, 967, 968, 969, 970, 971, 972, 987, 988, 989, 990, 973, 974, 975, 976] (by decide +kernel) (by decide +kernel)
set_option maxRecDepth 20000 in
theorem gL_law_X8_copying : GoodIn wsL_law (wsV RL 108 RX8 yX8_copying wsX8_copying) := goodIn_app (goodIn_of _ (by decide +kernel)) ggL_law_X8_copying
set_option maxRecDepth 20000 in
theorem ggL_law_X9_copying : GoodIn wsL_law wsX9_copying := goodIn_r _ [756, 726, 727, 259, 733, 138, 458, 459, 460, 5, 461, 260, 168, 169, 170, 728, 729, 730, 731, 151, 732, 429, 430, 431, 432, 136, 349, 350, 351, 352, 128, 131, 734, 735, 736, 737, 738, 739, 740, 741, 742, 743, 744, 745, 746, 747, 917, 918, 919, 920, 921, 922, 923, 924, 925, 926, 927, 928, 929, 930, 931, 932, 933, 934, 935, 936, 937, 938, 939, 940, 941, 942, 943, 944, 945, 946, 947, 948, 949, 950, 951, 952, 953] (by decide +kernel) (by decide +kernel)
set_option maxRecDepth 20000 in
theorem gL_law_X9_copying : GoodIn wsL_law (wsV RL 112 RX9 yX9_copying wsX9_copying) := goodIn_app (goodIn_of _ (by decide +kernel)) ggL_law_X9_copying
set_option maxRecDepth 20000 in
theorem ggL_law_X8_misread : GoodIn wsL_law wsX8_misread := goodIn_r _ [760, 23, 246, 311, 370, 761, 762, 763, 2, 764, 382, 27, 765, 525, 526, 26, 527, 324, 84, 400, 401, 402, 403, 81, 904, 905, 906, 907, 908, 909, 910, 911, 912, 913, 914, 915, 916, 966, 967, 968, 969, 970, 971, 972, 973, 974, 975, 976] (by decide +kernel) (by decide +kernel)
set_option maxRecDepth 20000 in
theorem gL_law_X8_misread : GoodIn wsL_law (wsV RL 113 RX8 yX8_misread wsX8_misread) := goodIn_app (goodIn_of _ (by decide +kernel)) ggL_law_X8_misread
set_option maxRecDepth 20000 in
theorem ggL_law_X9_misread : GoodIn wsL_law wsX9_misread := goodIn_r _ [769, 259, 133, 260, 138, 135, 168, 169, 5, 170, 349, 350, 351, 352, 128, 131, 429, 430, 431, 432, 136, 917, 918, 919, 920, 921, 922, 923, 924, 925, 926, 927, 928, 929, 930, 931, 932, 933, 934, 935, 936, 937, 938, 939, 940, 941, 942, 943, 944, 945, 946, 947, 948, 949, 950, 951, 952, 953] (by decide +kernel) (by decide +kernel)
set_option maxRecDepth 20000 in
theorem gL_law_X9_misread : GoodIn wsL_law (wsV RL 116 RX9 yX9_misread wsX9_misread) := goodIn_app (goodIn_of _ (by decide +kernel)) ggL_law_X9_misread
set_option maxRecDepth 20000 in
theorem ggL_law_X8_deal : GoodIn wsL_law wsX8_deal := goodIn_r _ [773, 774, 27, 247, 775, 776, 652, 777, 904, 905, 906, 907, 908, 909, 910, 911, 912, 913, 914, 915, 916, 973, 974, 975, 976] (by decide +kernel) (by decide +kernel)
set_option maxRecDepth 20000 in
theorem gL_law_X8_deal : GoodIn wsL_law (wsV RL 117 RX8 yX8_deal wsX8_deal) := goodIn_app (goodIn_of _ (by decide +kernel)) ggL_law_X8_deal
