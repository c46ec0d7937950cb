set_option maxRecDepth 20000 in
theorem ggL_law_X10_pass : GoodIn wsL_law wsX10_pass := goodIn_r _ [593, 594, 206, 207, 5, 208, 214, 215, 216, 217, 218, 104, 109, 103, 108, 595, 596, 597, 598, 599, 600, 601, 602, 219, 220, 221, 222, 460, 461, 462, 463, 223, 224, 225, 226, 603, 604, 605, 606, 607, 608, 609, 610, 611, 612, 464, 465, 466, 467, 613, 614, 615, 616, 617, 618, 619, 620, 621, 622, 623, 624, 625, 626, 627, 628, 629, 630, 631, 632, 324, 325, 326, 327, 885, 886, 887, 888, 889, 890, 891, 892, 893, 894, 895, 896, 897, 898] (by decide +kernel) (by decide +kernel)
set_option maxRecDepth 20000 in
theorem gL_law_X10_pass : GoodIn wsL_law (wsV RL 77 RX10 yX10_pass wsX10_pass) := goodIn_app (goodIn_of _ (by decide +kernel)) ggL_law_X10_pass
set_option maxRecDepth 20000 in
theorem ggL_law_X9_type : GoodIn wsL_law wsX9_type := goodIn_r _ [636, 25, 637, 638, 639, 24, 640, 641, 642, 643, 644, 645, 97, 880, 881, 882, 883, 884, 913, 914, 915, 916] (by decide +kernel) (by decide +kernel)
set_option maxRecDepth 20000 in
theorem gL_law_X9_type : GoodIn wsL_law (wsV RL 78 RX9 yX9_type wsX9_type) := goodIn_app (goodIn_of _ (by decide +kernel)) ggL_law_X9_type
set_option maxRecDepth 20000 in
theorem ggL_law_X10_type : GoodIn wsL_law wsX10_type := goodIn_r _ [649, 650, 111, 885, 886, 887, 888, 889, 890, 891, 892, 893, 894, 895, 896, 897, 898] (by decide +kernel) (by decide +kernel)
set_option maxRecDepth 20000 in
theorem gL_law_X10_type : GoodIn wsL_law (wsV RL 82 RX10 yX10_type wsX10_type) := goodIn_app (goodIn_of _ (by decide +kernel)) ggL_law_X10_type
set_option maxRecDepth 20000 in
theorem ggL_law_X9_clearText : GoodIn wsL_law wsX9_clearText := goodIn_r _ [654, 25, 655, 656, 657, 24, 658, 641, 880, 881, 882, 883, 884, 913, 914, 915, 916] (by decide +kernel) (by decide +kernel)
set_option maxRecDepth 20000 in
theorem gL_law_X9_clearText : GoodIn wsL_law (wsV RL 83 RX9 yX9_clearText wsX9_clearText) := goodIn_app (goodIn_of _ (by decide +kernel)) ggL_law_X9_clearText
set_option maxRecDepth 20000 in
theorem ggL_law_X10_clearText : GoodIn wsL_law wsX10_clearText := goodIn_r _ [662, 650, 885, 886, 887, 888, 889, 890, 891, 892, 893, 894, 895, 896, 897, 898] (by decide +kernel) (by decide +kernel)
set_option maxRecDepth 20000 in
theorem gL_law_X10_clearText : GoodIn wsL_law (wsV RL 86 RX10 yX10_clearText wsX10_clearText) := goodIn_app (goodIn_of _ (by decide +kernel)) ggL_law_X10_clearText
set_option maxRecDepth 20000 in
theorem ggL_law_X9_readTides : GoodIn wsL_law wsX9_readTides := goodIn_r _ [666, 25, 21, 16, 377, 667, 378, 379, 2, 380, 668, 669, 670, 24, 671, 641, 97, 672, 673, 674, 675, 676, 677, 678, 679, 680, 681, 682, 683, 684, 685, 686, 98, 687, 688, 689, 690, 691, 692, 445, 693, 134, 135, 136, 20, 137, 138, 139, 92, 91, 14, 15, 140, 141, 142, 143, 26, 27, 28, 11, 12, 29, 30, 31, 32, 33, 34, 35, 36, 37, 38, 39, 40, 41, 42, 43, 44, 45, 46, 47, 48, 49, 50, 51, 52, 53, 54, 55, 56, 57, 58, 59, 60, 61, 62, 63, 64, 65, 66, 67, 68, 69, 70, 71, 72, 73, 74, 75, 76, 77, 78, 79, 80, 81, 82, 83, 84, 85, 86, 87, 144, 145, 146, 147, 148, 149, 150, 151, 152, 153, 154, 155, 156, 157, 158, 133, 159, 160, 161, 162, 163, 164, 165, 166, 167, 168, 169, 170, 171, 172, 173, 174, 175, 176, 177, 178, 179, 180, 181, 182, 183, 184, 185, 186, 187, 188, 694, 695, 126, 696, 697, 698, 699, 700, 701, 702, 441, 703, 880, 881, 882, 883, 884, 899, 900, 901, 902, 903, 904, 905, 906, 907, 908, 909, 913, 914, 915, 916, 910, 911, 912, 917, 918, 919, 920, 921, 922, 923, 924, 925, 926, 927, 928, 929, 930, 931, 932, 933, 934, 935, 936, 937, 938, 939, 940, 941, 942, 943] (by decide +kernel) (by decide +kernel)
set_option maxRecDepth 20000 in
theorem gL_law_X9_readTides : GoodIn wsL_law (wsV RL 87 RX9 yX9_readTides wsX9_readTides) := goodIn_app (goodIn_of _ (by decide +kernel)) ggL_law_X9_readTides
set_option maxRecDepth 20000 in
theorem ggL_law_X10_readTides : GoodIn wsL_law wsX10_readTides := goodIn_r _ [707, 385, 708, 709, 650, 112, 108, 198, 206, 207, 5, 208, 710, 711, 712, 713, 111, 714, 715, 716, 717, 718, 719, 720, 721, 594, 722, 214, 215, 216, 217, 218, 104, 109, 103, 885, 886, 887, 888, 889, 890, 891, 892, 893, 894, 895, 896, 897, 898] (by decide +kernel) (by decide +kernel)
set_option maxRecDepth 20000 in
theorem gL_law_X10_readTides : GoodIn wsL_law (wsV RL 90 RX10 yX10_readTides wsX10_readTides) := goodIn_app (goodIn_of _ (by decide +kernel)) ggL_law_X10_readTides
set_option maxRecDepth 20000 in
theorem ggL_law_X9_undo : GoodIn wsL_law wsX9_undo := goodIn_r _ [726, 21, 16, 727, 728, 729, 730, 20, 731, 139, 92, 138, 140, 141, 142, 143, 144, 145, 146, 15, 147, 32, 36, 40, 44, 48, 50, 148, 149, 150, 151, 52, 152, 53, 153, 154, 155, 156, 157, 31, 158, 133, 58, 159, 59, 60, 61, 62, 63, 64, 160, 161, 162, 35, 163, 164, 68, 165, 70, 166, 167, 168, 39, 169, 170, 74, 171, 172, 173, 174, 43, 175, 176, 78, 177, 79, 178, 80, 81, 82, 179, 180, 181, 47, 182, 87, 183, 184, 185, 186, 187, 188, 880, 881, 882, 883, 884, 910, 911, 912, 899, 900, 901, 902, 903, 904, 905, 906, 907, 908, 909, 917, 918, 919, 920, 921, 922, 923, 924, 925, 926, 927, 928, 929, 930, 931, 932, 933, 934, 935, 936, 937, 938, 939, 940, 941, 942, 943] (by decide +kernel) (by decide +kernel)
set_option maxRecDepth 20000 in
theorem gL_law_X9_undo : GoodIn wsL_law (wsV RL 91 RX9 yX9_undo wsX9_undo) := goodIn_app (goodIn_of _ (by decide +kernel)) ggL_law_X9_undo
set_option maxRecDepth 20000 in
theorem ggL_law_X10_undo : GoodIn wsL_law wsX10_undo := goodIn_r _ [735, 218, 103, 104, 108, 109, 885, 886, 887, 888, 889, 890, 891, 892, 893, 894, 895, 896, 897, 898] (by decide +kernel) (by decide +kernel)
set_option maxRecDepth 20000 in
theorem gL_law_X10_undo : GoodIn wsL_law (wsV RL 94 RX10 yX10_undo wsX10_undo) := goodIn_app (goodIn_of _ (by decide +kernel)) ggL_law_X10_undo
