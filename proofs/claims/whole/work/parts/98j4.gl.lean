set_option maxRecDepth 20000 in
theorem ggL_law_X10_pass : GoodIn wsL_law wsX10_pass := goodIn_r _ [596, 597, 220, 221, 5, 222, 228, 229, 230, 231, 232, 105, 109, 104, 108, 598, 599, 600, 601, 602, 603, 604, 605, 233, 234, 235, 236, 464, 465, 466, 467, 237, 238, 239, 240, 606, 607, 608, 609, 610, 611, 612, 613, 614, 615, 468, 469, 470, 471, 616, 617, 618, 619, 620, 621, 622, 623, 624, 625, 626, 627, 628, 629, 630, 631, 632, 633, 634, 635, 338, 339, 340, 341, 887, 888, 889, 890, 891, 892, 893, 894, 895, 896, 897, 898, 899, 900] (by decide +kernel) (by decide +kernel)
set_option maxRecDepth 20000 in
theorem gL_law_X10_pass : GoodIn wsL_law (wsV RL 77 RX10 yX10_pass wsX10_pass) := goodIn_app (goodIn_of _ (by decide +kernel)) ggL_law_X10_pass
set_option maxRecDepth 20000 in
theorem ggL_law_X9_type : GoodIn wsL_law wsX9_type := goodIn_r _ [639, 25, 640, 641, 642, 24, 643, 644, 645, 646, 647, 648, 98, 882, 883, 884, 885, 886, 915, 916, 917, 918] (by decide +kernel) (by decide +kernel)
set_option maxRecDepth 20000 in
theorem gL_law_X9_type : GoodIn wsL_law (wsV RL 78 RX9 yX9_type wsX9_type) := goodIn_app (goodIn_of _ (by decide +kernel)) ggL_law_X9_type
set_option maxRecDepth 20000 in
theorem ggL_law_X10_type : GoodIn wsL_law wsX10_type := goodIn_r _ [652, 653, 111, 887, 888, 889, 890, 891, 892, 893, 894, 895, 896, 897, 898, 899, 900] (by decide +kernel) (by decide +kernel)
set_option maxRecDepth 20000 in
theorem gL_law_X10_type : GoodIn wsL_law (wsV RL 82 RX10 yX10_type wsX10_type) := goodIn_app (goodIn_of _ (by decide +kernel)) ggL_law_X10_type
set_option maxRecDepth 20000 in
theorem ggL_law_X9_clearText : GoodIn wsL_law wsX9_clearText := goodIn_r _ [657, 25, 658, 659, 660, 24, 661, 644, 882, 883, 884, 885, 886, 915, 916, 917, 918] (by decide +kernel) (by decide +kernel)
set_option maxRecDepth 20000 in
theorem gL_law_X9_clearText : GoodIn wsL_law (wsV RL 83 RX9 yX9_clearText wsX9_clearText) := goodIn_app (goodIn_of _ (by decide +kernel)) ggL_law_X9_clearText
set_option maxRecDepth 20000 in
theorem ggL_law_X10_clearText : GoodIn wsL_law wsX10_clearText := goodIn_r _ [665, 653, 887, 888, 889, 890, 891, 892, 893, 894, 895, 896, 897, 898, 899, 900] (by decide +kernel) (by decide +kernel)
set_option maxRecDepth 20000 in
theorem gL_law_X10_clearText : GoodIn wsL_law (wsV RL 86 RX10 yX10_clearText wsX10_clearText) := goodIn_app (goodIn_of _ (by decide +kernel)) ggL_law_X10_clearText
set_option maxRecDepth 20000 in
theorem ggL_law_X9_readTides : GoodIn wsL_law wsX9_readTides := goodIn_r _ [669, 25, 21, 16, 390, 670, 391, 392, 2, 393, 671, 672, 673, 24, 674, 644, 98, 675, 676, 677, 678, 679, 680, 681, 682, 683, 684, 685, 686, 687, 688, 689, 99, 690, 691, 692, 693, 694, 695, 200, 696, 134, 135, 136, 20, 137, 138, 139, 93, 92, 14, 15, 140, 141, 142, 143, 26, 27, 28, 11, 12, 29, 30, 31, 32, 33, 34, 35, 36, 37, 38, 39, 40, 41, 42, 43, 44, 45, 46, 47, 48, 49, 50, 51, 52, 53, 54, 55, 56, 57, 58, 59, 60, 61, 62, 63, 64, 65, 66, 67, 68, 69, 70, 71, 72, 73, 74, 75, 76, 77, 78, 79, 80, 81, 82, 83, 84, 85, 86, 87, 88, 144, 145, 146, 147, 148, 149, 150, 151, 152, 153, 154, 155, 156, 157, 158, 133, 159, 160, 161, 162, 163, 164, 165, 166, 167, 168, 169, 170, 171, 172, 173, 174, 175, 176, 177, 178, 179, 180, 181, 182, 183, 184, 185, 186, 187, 188, 697, 698, 126, 699, 700, 701, 702, 703, 704, 705, 196, 706, 882, 883, 884, 885, 886, 901, 902, 903, 904, 905, 906, 907, 908, 909, 910, 911, 915, 916, 917, 918, 912, 913, 914, 919, 920, 921, 922, 923, 924, 925, 926, 927, 928, 929, 930, 931, 932, 933, 934, 935, 936, 937, 938, 939, 940, 941, 942, 943, 944, 945] (by decide +kernel) (by decide +kernel)
set_option maxRecDepth 20000 in
theorem gL_law_X9_readTides : GoodIn wsL_law (wsV RL 87 RX9 yX9_readTides wsX9_readTides) := goodIn_app (goodIn_of _ (by decide +kernel)) ggL_law_X9_readTides
set_option maxRecDepth 20000 in
theorem ggL_law_X10_readTides : GoodIn wsL_law wsX10_readTides := goodIn_r _ [710, 398, 711, 712, 653, 112, 108, 212, 220, 221, 5, 222, 713, 714, 715, 716, 111, 717, 718, 719, 720, 721, 722, 723, 724, 597, 725, 228, 229, 230, 231, 232, 105, 109, 104, 887, 888, 889, 890, 891, 892, 893, 894, 895, 896, 897, 898, 899, 900] (by decide +kernel) (by decide +kernel)
set_option maxRecDepth 20000 in
theorem gL_law_X10_readTides : GoodIn wsL_law (wsV RL 90 RX10 yX10_readTides wsX10_readTides) := goodIn_app (goodIn_of _ (by decide +kernel)) ggL_law_X10_readTides
set_option maxRecDepth 20000 in
theorem ggL_law_X9_undo : GoodIn wsL_law wsX9_undo := goodIn_r _ [729, 21, 16, 730, 731, 732, 733, 20, 734, 139, 93, 138, 140, 141, 142, 143, 144, 145, 146, 15, 147, 32, 36, 40, 44, 48, 50, 148, 149, 150, 151, 52, 152, 53, 153, 154, 155, 156, 157, 31, 158, 133, 58, 159, 60, 61, 62, 63, 64, 65, 160, 161, 162, 35, 163, 164, 69, 165, 71, 166, 167, 168, 39, 169, 170, 75, 171, 172, 173, 174, 43, 175, 176, 79, 177, 80, 178, 81, 82, 83, 179, 180, 181, 47, 182, 88, 183, 184, 185, 186, 187, 188, 882, 883, 884, 885, 886, 912, 913, 914, 901, 902, 903, 904, 905, 906, 907, 908, 909, 910, 911, 919, 920, 921, 922, 923, 924, 925, 926, 927, 928, 929, 930, 931, 932, 933, 934, 935, 936, 937, 938, 939, 940, 941, 942, 943, 944, 945] (by decide +kernel) (by decide +kernel)
set_option maxRecDepth 20000 in
theorem gL_law_X9_undo : GoodIn wsL_law (wsV RL 91 RX9 yX9_undo wsX9_undo) := goodIn_app (goodIn_of _ (by decide +kernel)) ggL_law_X9_undo
set_option maxRecDepth 20000 in
theorem ggL_law_X10_undo : GoodIn wsL_law wsX10_undo := goodIn_r _ [738, 232, 104, 105, 108, 109, 887, 888, 889, 890, 891, 892, 893, 894, 895, 896, 897, 898, 899, 900] (by decide +kernel) (by decide +kernel)
set_option maxRecDepth 20000 in
theorem gL_law_X10_undo : GoodIn wsL_law (wsV RL 94 RX10 yX10_undo wsX10_undo) := goodIn_app (goodIn_of _ (by decide +kernel)) ggL_law_X10_undo
