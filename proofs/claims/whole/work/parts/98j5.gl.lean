set_option maxRecDepth 20000 in
theorem ggL_law_X9_keep : GoodIn wsL_law wsX9_keep := goodIn_r _ [742, 743, 13, 14, 15, 16, 744, 26, 27, 28, 11, 12, 29, 30, 31, 32, 33, 34, 35, 36, 37, 38, 39, 40, 41, 42, 43, 44, 45, 46, 47, 48, 49, 50, 51, 52, 53, 54, 55, 56, 57, 58, 59, 60, 61, 62, 63, 64, 65, 66, 67, 68, 69, 70, 71, 72, 73, 74, 75, 76, 77, 78, 79, 80, 81, 82, 83, 84, 85, 86, 87, 88, 745, 145, 146, 147, 148, 149, 150, 151, 152, 153, 154, 155, 156, 157, 158, 133, 159, 160, 161, 162, 163, 164, 165, 166, 167, 168, 169, 170, 171, 172, 173, 174, 175, 176, 177, 178, 179, 180, 181, 182, 183, 184, 185, 186, 187, 188, 882, 883, 884, 885, 886, 901, 902, 903, 904, 905, 906, 907, 908, 909, 910, 911, 919, 920, 921, 922, 923, 924, 925, 926, 927, 928, 929, 930, 931, 932, 933, 934, 935, 936, 937, 938, 939, 940, 941, 942, 943, 944, 945] (by decide +kernel) (by decide +kernel)
set_option maxRecDepth 20000 in
theorem gL_law_X9_keep : GoodIn wsL_law (wsV RL 95 RX9 yX9_keep wsX9_keep) := goodIn_app (goodIn_of _ (by decide +kernel)) ggL_law_X9_keep
set_option maxRecDepth 20000 in
theorem ggL_law_X10_keep : GoodIn wsL_law wsX10_keep := goodIn_r _ [749, 106, 104, 110, 108, 750, 233, 234, 235, 5, 236, 887, 888, 889, 890, 891, 892, 893, 894, 895, 896, 897, 898, 899, 900] (by decide +kernel) (by decide +kernel)
set_option maxRecDepth 20000 in
theorem gL_law_X10_keep : GoodIn wsL_law (wsV RL 98 RX10 yX10_keep wsX10_keep) := goodIn_app (goodIn_of _ (by decide +kernel)) ggL_law_X10_keep
set_option maxRecDepth 20000 in
theorem ggL_law_X9_restore : GoodIn wsL_law wsX9_restore := goodIn_r _ [754, 743, 21, 16, 744, 134, 135, 136, 20, 137, 138, 139, 93, 92, 14, 15, 140, 141, 142, 143, 26, 27, 28, 11, 12, 29, 30, 31, 32, 33, 34, 35, 36, 37, 38, 39, 40, 41, 42, 43, 44, 45, 46, 47, 48, 49, 50, 51, 52, 53, 54, 55, 56, 57, 58, 59, 60, 61, 62, 63, 64, 65, 66, 67, 68, 69, 70, 71, 72, 73, 74, 75, 76, 77, 78, 79, 80, 81, 82, 83, 84, 85, 86, 87, 88, 144, 145, 146, 147, 148, 149, 150, 151, 152, 153, 154, 155, 156, 157, 158, 133, 159, 160, 161, 162, 163, 164, 165, 166, 167, 168, 169, 170, 171, 172, 173, 174, 175, 176, 177, 178, 179, 180, 181, 182, 183, 184, 185, 186, 187, 188, 745, 882, 883, 884, 885, 886, 901, 902, 903, 904, 905, 906, 907, 908, 909, 910, 911, 912, 913, 914, 919, 920, 921, 922, 923, 924, 925, 926, 927, 928, 929, 930, 931, 932, 933, 934, 935, 936, 937, 938, 939, 940, 941, 942, 943, 944, 945] (by decide +kernel) (by decide +kernel)
set_option maxRecDepth 20000 in
theorem gL_law_X9_restore : GoodIn wsL_law (wsV RL 99 RX9 yX9_restore wsX9_restore) := goodIn_app (goodIn_of _ (by decide +kernel)) ggL_law_X9_restore
set_option maxRecDepth 20000 in
theorem ggL_law_X10_restore : GoodIn wsL_law wsX10_restore := goodIn_r _ [758, 750, 104, 106, 108, 110, 228, 229, 230, 5, 231, 232, 105, 109, 233, 234, 235, 236, 887, 888, 889, 890, 891, 892, 893, 894, 895, 896, 897, 898, 899, 900] (by decide +kernel) (by decide +kernel)
set_option maxRecDepth 20000 in
theorem gL_law_X10_restore : GoodIn wsL_law (wsV RL 102 RX10 yX10_restore wsX10_restore) := goodIn_app (goodIn_of _ (by decide +kernel)) ggL_law_X10_restore
set_option maxRecDepth 20000 in
theorem ggL_law_X9_section : GoodIn wsL_law wsX9_section := goodIn_r _ [762, 16, 120, 763, 764, 765, 495, 766, 494, 496, 497, 498, 31, 499, 133, 500, 482, 483, 484, 63, 882, 883, 884, 885, 886, 901, 902, 903, 904, 905, 906, 907, 908, 909, 910, 911, 919, 920, 921, 922, 923, 924, 925, 926] (by decide +kernel) (by decide +kernel)
set_option maxRecDepth 20000 in
theorem gL_law_X9_section : GoodIn wsL_law (wsV RL 103 RX9 yX9_section wsX9_section) := goodIn_app (goodIn_of _ (by decide +kernel)) ggL_law_X9_section
set_option maxRecDepth 20000 in
theorem ggL_law_X10_section : GoodIn wsL_law wsX10_section := goodIn_r _ [770, 104, 309, 310, 311, 5, 312, 220, 221, 222, 464, 465, 466, 467, 233, 234, 235, 236, 887, 888, 889, 890, 891, 892, 893, 894, 895, 896, 897, 898, 899, 900] (by decide +kernel) (by decide +kernel)
set_option maxRecDepth 20000 in
theorem gL_law_X10_section : GoodIn wsL_law (wsV RL 106 RX10 yX10_section wsX10_section) := goodIn_app (goodIn_of _ (by decide +kernel)) ggL_law_X10_section
set_option maxRecDepth 20000 in
theorem ggL_law_X9_pump : GoodIn wsL_law wsX9_pump := goodIn_r _ [774, 16, 283, 775, 776, 321, 777, 322, 323, 324, 43, 325, 176, 778, 779, 780, 781, 80, 580, 581, 582, 583, 82, 79, 882, 883, 884, 885, 886, 901, 902, 903, 904, 905, 906, 907, 908, 909, 910, 911, 932, 933, 934, 935, 936, 937, 938] (by decide +kernel) (by decide +kernel)
set_option maxRecDepth 20000 in
theorem gL_law_X9_pump : GoodIn wsL_law (wsV RL 107 RX9 yX9_pump wsX9_pump) := goodIn_app (goodIn_of _ (by decide +kernel)) ggL_law_X9_pump
set_option maxRecDepth 20000 in
theorem ggL_law_X10_pump : GoodIn wsL_law wsX10_pump := goodIn_r _ [785, 309, 310, 311, 5, 312, 104, 220, 221, 222, 338, 339, 340, 341, 233, 234, 235, 236, 632, 633, 634, 635, 887, 888, 889, 890, 891, 892, 893, 894, 895, 896, 897, 898, 899, 900] (by decide +kernel) (by decide +kernel)
set_option maxRecDepth 20000 in
theorem gL_law_X10_pump : GoodIn wsL_law (wsV RL 110 RX10 yX10_pump wsX10_pump) := goodIn_app (goodIn_of _ (by decide +kernel)) ggL_law_X10_pump
set_option maxRecDepth 20000 in
theorem ggL_law_X9_level : GoodIn wsL_law wsX9_level := goodIn_r _ [789, 16, 351, 369, 790, 791, 447, 448, 15, 449, 50, 152, 450, 141, 142, 143, 451, 190, 126, 191, 192, 193, 194, 195, 196, 197, 198, 199, 200, 201, 202, 792, 550, 551, 47, 552, 183, 88, 189, 882, 883, 884, 885, 886, 901, 902, 903, 904, 905, 906, 907, 908, 909, 910, 911, 939, 940, 941, 942, 943, 944, 945] (by decide +kernel) (by decide +kernel)
set_option maxRecDepth 20000 in
theorem gL_law_X9_level : GoodIn wsL_law (wsV RL 111 RX9 yX9_level wsX9_level) := goodIn_app (goodIn_of _ (by decide +kernel)) ggL_law_X9_level
set_option maxRecDepth 20000 in
theorem ggL_law_X10_level : GoodIn wsL_law wsX10_level := goodIn_r _ [796, 108, 468, 469, 470, 5, 471, 233, 234, 235, 236, 104, 616, 617, 618, 619, 797, 798, 799, 800, 887, 888, 889, 890, 891, 892, 893, 894, 895, 896, 897, 898, 899, 900] (by decide +kernel) (by decide +kernel)
set_option maxRecDepth 20000 in
theorem gL_law_X10_level : GoodIn wsL_law (wsV RL 115 RX10 yX10_level wsX10_level) := goodIn_app (goodIn_of _ (by decide +kernel)) ggL_law_X10_level
