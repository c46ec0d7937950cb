set_option maxRecDepth 20000 in
theorem ggL_law_X9_keep : GoodIn wsL_law wsX9_keep := goodIn_r _ [739, 740, 13, 14, 15, 16, 741, 26, 27, 28, 11, 12, 29, 30, 31, 32, 33, 34, 35, 36, 37, 38, 39, 40, 41, 42, 43, 44, 45, 46, 47, 48, 49, 50, 51, 52, 53, 54, 55, 56, 57, 58, 59, 60, 61, 62, 63, 64, 65, 66, 67, 68, 69, 70, 71, 72, 73, 74, 75, 76, 77, 78, 79, 80, 81, 82, 83, 84, 85, 86, 87, 742, 145, 146, 147, 148, 149, 150, 151, 152, 153, 154, 155, 156, 157, 158, 133, 159, 160, 161, 162, 163, 164, 165, 166, 167, 168, 169, 170, 171, 172, 173, 174, 175, 176, 177, 178, 179, 180, 181, 182, 183, 184, 185, 186, 187, 188, 880, 881, 882, 883, 884, 899, 900, 901, 902, 903, 904, 905, 906, 907, 908, 909, 917, 918, 919, 920, 921, 922, 923, 924, 925, 926, 927, 928, 929, 930, 931, 932, 933, 934, 935, 936, 937, 938, 939, 940, 941, 942, 943] (by decide +kernel) (by decide +kernel)
set_option maxRecDepth 20000 in
theorem gL_law_X9_keep : GoodIn wsL_law (wsV RL 95 RX9 yX9_keep wsX9_keep) := goodIn_app (goodIn_of _ (by decide +kernel)) ggL_law_X9_keep
set_option maxRecDepth 20000 in
theorem ggL_law_X10_keep : GoodIn wsL_law wsX10_keep := goodIn_r _ [746, 105, 103, 110, 108, 747, 219, 220, 221, 5, 222, 885, 886, 887, 888, 889, 890, 891, 892, 893, 894, 895, 896, 897, 898] (by decide +kernel) (by decide +kernel)
set_option maxRecDepth 20000 in
theorem gL_law_X10_keep : GoodIn wsL_law (wsV RL 98 RX10 yX10_keep wsX10_keep) := goodIn_app (goodIn_of _ (by decide +kernel)) ggL_law_X10_keep
set_option maxRecDepth 20000 in
theorem ggL_law_X9_restore : GoodIn wsL_law wsX9_restore := goodIn_r _ [751, 740, 21, 16, 741, 134, 135, 136, 20, 137, 138, 139, 92, 91, 14, 15, 140, 141, 142, 143, 26, 27, 28, 11, 12, 29, 30, 31, 32, 33, 34, 35, 36, 37, 38, 39, 40, 41, 42, 43, 44, 45, 46, 47, 48, 49, 50, 51, 52, 53, 54, 55, 56, 57, 58, 59, 60, 61, 62, 63, 64, 65, 66, 67, 68, 69, 70, 71, 72, 73, 74, 75, 76, 77, 78, 79, 80, 81, 82, 83, 84, 85, 86, 87, 144, 145, 146, 147, 148, 149, 150, 151, 152, 153, 154, 155, 156, 157, 158, 133, 159, 160, 161, 162, 163, 164, 165, 166, 167, 168, 169, 170, 171, 172, 173, 174, 175, 176, 177, 178, 179, 180, 181, 182, 183, 184, 185, 186, 187, 188, 742, 880, 881, 882, 883, 884, 899, 900, 901, 902, 903, 904, 905, 906, 907, 908, 909, 910, 911, 912, 917, 918, 919, 920, 921, 922, 923, 924, 925, 926, 927, 928, 929, 930, 931, 932, 933, 934, 935, 936, 937, 938, 939, 940, 941, 942, 943] (by decide +kernel) (by decide +kernel)
set_option maxRecDepth 20000 in
theorem gL_law_X9_restore : GoodIn wsL_law (wsV RL 99 RX9 yX9_restore wsX9_restore) := goodIn_app (goodIn_of _ (by decide +kernel)) ggL_law_X9_restore
set_option maxRecDepth 20000 in
theorem ggL_law_X10_restore : GoodIn wsL_law wsX10_restore := goodIn_r _ [755, 747, 103, 105, 108, 110, 214, 215, 216, 5, 217, 218, 104, 109, 219, 220, 221, 222, 885, 886, 887, 888, 889, 890, 891, 892, 893, 894, 895, 896, 897, 898] (by decide +kernel) (by decide +kernel)
set_option maxRecDepth 20000 in
theorem gL_law_X10_restore : GoodIn wsL_law (wsV RL 102 RX10 yX10_restore wsX10_restore) := goodIn_app (goodIn_of _ (by decide +kernel)) ggL_law_X10_restore
set_option maxRecDepth 20000 in
theorem ggL_law_X9_section : GoodIn wsL_law wsX9_section := goodIn_r _ [759, 16, 120, 760, 761, 762, 491, 763, 490, 492, 493, 494, 31, 495, 133, 496, 478, 479, 480, 62, 880, 881, 882, 883, 884, 899, 900, 901, 902, 903, 904, 905, 906, 907, 908, 909, 917, 918, 919, 920, 921, 922, 923, 924] (by decide +kernel) (by decide +kernel)
set_option maxRecDepth 20000 in
theorem gL_law_X9_section : GoodIn wsL_law (wsV RL 103 RX9 yX9_section wsX9_section) := goodIn_app (goodIn_of _ (by decide +kernel)) ggL_law_X9_section
set_option maxRecDepth 20000 in
theorem ggL_law_X10_section : GoodIn wsL_law wsX10_section := goodIn_r _ [767, 103, 295, 296, 297, 5, 298, 206, 207, 208, 460, 461, 462, 463, 219, 220, 221, 222, 885, 886, 887, 888, 889, 890, 891, 892, 893, 894, 895, 896, 897, 898] (by decide +kernel) (by decide +kernel)
set_option maxRecDepth 20000 in
theorem gL_law_X10_section : GoodIn wsL_law (wsV RL 106 RX10 yX10_section wsX10_section) := goodIn_app (goodIn_of _ (by decide +kernel)) ggL_law_X10_section
set_option maxRecDepth 20000 in
theorem ggL_law_X9_pump : GoodIn wsL_law wsX9_pump := goodIn_r _ [771, 16, 269, 772, 773, 307, 774, 308, 309, 310, 43, 311, 176, 775, 776, 777, 778, 79, 577, 578, 579, 580, 81, 78, 880, 881, 882, 883, 884, 899, 900, 901, 902, 903, 904, 905, 906, 907, 908, 909, 930, 931, 932, 933, 934, 935, 936] (by decide +kernel) (by decide +kernel)
set_option maxRecDepth 20000 in
theorem gL_law_X9_pump : GoodIn wsL_law (wsV RL 107 RX9 yX9_pump wsX9_pump) := goodIn_app (goodIn_of _ (by decide +kernel)) ggL_law_X9_pump
set_option maxRecDepth 20000 in
theorem ggL_law_X10_pump : GoodIn wsL_law wsX10_pump := goodIn_r _ [782, 295, 296, 297, 5, 298, 103, 206, 207, 208, 324, 325, 326, 327, 219, 220, 221, 222, 629, 630, 631, 632, 885, 886, 887, 888, 889, 890, 891, 892, 893, 894, 895, 896, 897, 898] (by decide +kernel) (by decide +kernel)
set_option maxRecDepth 20000 in
theorem gL_law_X10_pump : GoodIn wsL_law (wsV RL 110 RX10 yX10_pump wsX10_pump) := goodIn_app (goodIn_of _ (by decide +kernel)) ggL_law_X10_pump
set_option maxRecDepth 20000 in
theorem ggL_law_X9_level : GoodIn wsL_law wsX9_level := goodIn_r _ [786, 16, 337, 355, 787, 788, 434, 435, 15, 436, 50, 152, 437, 141, 142, 143, 438, 439, 126, 440, 359, 441, 442, 443, 444, 445, 446, 447, 789, 546, 547, 47, 548, 183, 87, 790, 880, 881, 882, 883, 884, 899, 900, 901, 902, 903, 904, 905, 906, 907, 908, 909, 937, 938, 939, 940, 941, 942, 943] (by decide +kernel) (by decide +kernel)
set_option maxRecDepth 20000 in
theorem gL_law_X9_level : GoodIn wsL_law (wsV RL 111 RX9 yX9_level wsX9_level) := goodIn_app (goodIn_of _ (by decide +kernel)) ggL_law_X9_level
set_option maxRecDepth 20000 in
theorem ggL_law_X10_level : GoodIn wsL_law wsX10_level := goodIn_r _ [794, 108, 464, 465, 466, 5, 467, 219, 220, 221, 222, 103, 613, 614, 615, 616, 795, 796, 797, 798, 885, 886, 887, 888, 889, 890, 891, 892, 893, 894, 895, 896, 897, 898] (by decide +kernel) (by decide +kernel)
set_option maxRecDepth 20000 in
theorem gL_law_X10_level : GoodIn wsL_law (wsV RL 115 RX10 yX10_level wsX10_level) := goodIn_app (goodIn_of _ (by decide +kernel)) ggL_law_X10_level
