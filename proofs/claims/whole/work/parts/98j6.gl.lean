set_option maxRecDepth 20000 in
theorem ggL_law_X9_water : GoodIn wsL_law wsX9_water := goodIn_r _ [802, 16, 337, 803, 804, 805, 806, 807, 808, 809, 880, 881, 882, 883, 884, 899, 900, 901, 902, 903, 904, 905, 906, 907, 908, 909, 937, 938, 939, 940, 941, 942, 943] (by decide +kernel) (by decide +kernel)
set_option maxRecDepth 20000 in
theorem gL_law_X9_water : GoodIn wsL_law (wsV RL 116 RX9 yX9_water wsX9_water) := goodIn_app (goodIn_of _ (by decide +kernel)) ggL_law_X9_water
set_option maxRecDepth 20000 in
theorem ggL_law_X10_water : GoodIn wsL_law wsX10_water := goodIn_r _ [813, 814, 103, 815, 206, 207, 5, 208, 885, 886, 887, 888, 889, 890, 891, 892, 893, 894, 895, 896, 897, 898] (by decide +kernel) (by decide +kernel)
set_option maxRecDepth 20000 in
theorem gL_law_X10_water : GoodIn wsL_law (wsV RL 120 RX10 yX10_water wsX10_water) := goodIn_app (goodIn_of _ (by decide +kernel)) ggL_law_X10_water
set_option maxRecDepth 20000 in
theorem ggL_law_X9_forecast : GoodIn wsL_law wsX9_forecast := goodIn_r _ [819, 787, 17, 16, 337, 121, 122, 2, 123, 742, 145, 146, 15, 147, 32, 36, 40, 44, 48, 50, 148, 149, 150, 151, 52, 152, 53, 153, 154, 155, 156, 157, 31, 158, 133, 58, 159, 59, 60, 61, 62, 63, 64, 160, 161, 162, 35, 163, 164, 68, 165, 70, 166, 167, 168, 39, 169, 170, 74, 171, 172, 173, 174, 43, 175, 176, 78, 177, 79, 178, 80, 81, 82, 179, 180, 181, 47, 182, 87, 183, 184, 185, 186, 187, 188, 513, 514, 515, 516, 517, 518, 519, 520, 521, 474, 475, 476, 477, 478, 479, 480, 522, 523, 524, 525, 526, 527, 528, 529, 530, 498, 499, 500, 531, 532, 533, 534, 535, 536, 537, 538, 433, 434, 435, 436, 437, 141, 142, 143, 438, 439, 126, 440, 359, 441, 442, 443, 444, 445, 446, 447, 539, 540, 541, 542, 543, 544, 545, 546, 547, 548, 549, 550, 551, 552, 553, 554, 555, 556, 557, 558, 559, 560, 561, 562, 563, 564, 565, 566, 567, 568, 569, 570, 571, 572, 573, 574, 575, 576, 577, 578, 579, 580, 581, 582, 583, 584, 585, 586, 587, 588, 589, 789, 880, 881, 882, 883, 884, 899, 900, 901, 902, 903, 904, 905, 906, 907, 908, 909, 917, 918, 919, 920, 921, 922, 923, 924, 925, 926, 927, 928, 929, 930, 931, 932, 933, 934, 935, 936, 937, 938, 939, 940, 941, 942, 943] (by decide +kernel) (by decide +kernel)
set_option maxRecDepth 20000 in
theorem gL_law_X9_forecast : GoodIn wsL_law (wsV RL 121 RX9 yX9_forecast wsX9_forecast) := goodIn_app (goodIn_of _ (by decide +kernel)) ggL_law_X9_forecast
set_option maxRecDepth 20000 in
theorem ggL_law_X10_forecast : GoodIn wsL_law wsX10_forecast := goodIn_r _ [823, 594, 206, 207, 5, 208, 795, 796, 797, 798, 824, 825, 826, 827, 106, 103, 595, 596, 597, 598, 599, 600, 601, 602, 219, 220, 221, 222, 460, 461, 462, 463, 223, 224, 225, 226, 603, 604, 605, 606, 607, 608, 609, 610, 611, 108, 612, 464, 465, 466, 467, 613, 614, 615, 616, 617, 618, 619, 620, 621, 622, 623, 624, 625, 626, 627, 628, 629, 630, 631, 632, 324, 325, 326, 327, 828, 829, 830, 831, 885, 886, 887, 888, 889, 890, 891, 892, 893, 894, 895, 896, 897, 898] (by decide +kernel) (by decide +kernel)
set_option maxRecDepth 20000 in
theorem gL_law_X10_forecast : GoodIn wsL_law (wsV RL 124 RX10 yX10_forecast wsX10_forecast) := goodIn_app (goodIn_of _ (by decide +kernel)) ggL_law_X10_forecast
set_option maxRecDepth 20000 in
theorem ggL_law_X9_shutIn : GoodIn wsL_law wsX9_shutIn := goodIn_r _ [835, 17, 16, 120, 742, 145, 146, 15, 147, 32, 36, 40, 44, 48, 50, 148, 149, 150, 151, 52, 152, 53, 153, 154, 155, 156, 157, 31, 158, 133, 58, 159, 59, 60, 61, 62, 63, 64, 160, 161, 162, 35, 163, 164, 68, 165, 70, 166, 167, 168, 39, 169, 170, 74, 171, 172, 173, 174, 43, 175, 176, 78, 177, 79, 178, 80, 81, 82, 179, 180, 181, 47, 182, 87, 183, 184, 185, 186, 187, 188, 421, 422, 423, 424, 425, 426, 427, 428, 513, 514, 515, 516, 517, 518, 519, 520, 521, 474, 475, 476, 477, 478, 479, 480, 522, 523, 524, 525, 526, 527, 528, 529, 530, 498, 499, 500, 531, 532, 533, 534, 535, 536, 537, 538, 433, 434, 435, 436, 437, 141, 142, 143, 438, 439, 126, 440, 359, 441, 442, 443, 444, 445, 446, 447, 539, 540, 541, 542, 543, 544, 545, 546, 547, 548, 549, 550, 551, 552, 553, 554, 555, 556, 557, 558, 559, 560, 561, 562, 563, 564, 565, 566, 567, 568, 569, 570, 571, 572, 573, 574, 575, 576, 577, 578, 579, 580, 581, 582, 583, 584, 585, 586, 587, 588, 589, 880, 881, 882, 883, 884, 899, 900, 901, 902, 903, 904, 905, 906, 907, 908, 909, 917, 918, 919, 920, 921, 922, 923, 924, 925, 926, 927, 928, 929, 930, 931, 932, 933, 934, 935, 936, 937, 938, 939, 940, 941, 942, 943] (by decide +kernel) (by decide +kernel)
set_option maxRecDepth 20000 in
theorem gL_law_X9_shutIn : GoodIn wsL_law (wsV RL 125 RX9 yX9_shutIn wsX9_shutIn) := goodIn_app (goodIn_of _ (by decide +kernel)) ggL_law_X9_shutIn
set_option maxRecDepth 20000 in
theorem ggL_law_X10_shutIn : GoodIn wsL_law wsX10_shutIn := goodIn_r _ [839, 824, 825, 826, 5, 827, 106, 103, 452, 453, 454, 455, 456, 457, 458, 459, 460, 461, 462, 463, 219, 220, 221, 222, 595, 596, 597, 598, 599, 600, 601, 602, 223, 224, 225, 226, 603, 604, 605, 606, 607, 608, 609, 610, 611, 108, 612, 464, 465, 466, 467, 613, 614, 615, 616, 617, 618, 619, 620, 621, 622, 623, 624, 625, 626, 627, 628, 629, 630, 631, 632, 324, 325, 326, 327, 828, 829, 830, 831, 885, 886, 887, 888, 889, 890, 891, 892, 893, 894, 895, 896, 897, 898] (by decide +kernel) (by decide +kernel)
set_option maxRecDepth 20000 in
theorem gL_law_X10_shutIn : GoodIn wsL_law (wsV RL 128 RX10 yX10_shutIn wsX10_shutIn) := goodIn_app (goodIn_of _ (by decide +kernel)) ggL_law_X10_shutIn
set_option maxRecDepth 20000 in
theorem ggL_law_X9_tide : GoodIn wsL_law wsX9_tide := goodIn_r _ [843, 16, 377, 809, 378, 379, 2, 380, 880, 881, 882, 883, 884, 899, 900, 901, 902, 903, 904, 905, 906, 907, 908, 909] (by decide +kernel) (by decide +kernel)
set_option maxRecDepth 20000 in
theorem gL_law_X9_tide : GoodIn wsL_law (wsV RL 129 RX9 yX9_tide wsX9_tide) := goodIn_app (goodIn_of _ (by decide +kernel)) ggL_law_X9_tide
set_option maxRecDepth 20000 in
theorem ggL_law_X10_tide : GoodIn wsL_law wsX10_tide := goodIn_r _ [847, 385, 108, 815, 206, 207, 5, 208, 848, 849, 850, 851, 852, 853, 854, 205, 855, 856, 857, 858, 885, 886, 887, 888, 889, 890, 891, 892, 893, 894, 895, 896, 897, 898] (by decide +kernel) (by decide +kernel)
set_option maxRecDepth 20000 in
theorem gL_law_X10_tide : GoodIn wsL_law (wsV RL 132 RX10 yX10_tide wsX10_tide) := goodIn_app (goodIn_of _ (by decide +kernel)) ggL_law_X10_tide
set_option maxRecDepth 20000 in
theorem ggL_law_X9_count : GoodIn wsL_law wsX9_count := goodIn_r _ [862, 16, 741, 411, 120, 231, 863, 864, 337, 338, 269, 343, 473, 474, 475, 31, 476, 133, 477, 478, 479, 480, 62, 472, 426, 427, 428, 395, 396, 397, 35, 398, 164, 70, 68, 865, 418, 419, 420, 866, 867, 868, 2, 869, 870, 871, 250, 872, 873, 21, 727, 25, 874, 875, 880, 881, 882, 883, 884, 899, 900, 901, 902, 903, 904, 905, 906, 907, 908, 909, 937, 938, 939, 940, 941, 942, 943, 930, 931, 932, 933, 934, 935, 936, 917, 918, 919, 920, 921, 922, 923, 924, 925, 926, 927, 928, 929, 910, 911, 912, 913, 914, 915, 916] (by decide +kernel) (by decide +kernel)
set_option maxRecDepth 20000 in
theorem gL_law_X9_count : GoodIn wsL_law (wsV RL 133 RX9 yX9_count wsX9_count) := goodIn_app (goodIn_of _ (by decide +kernel)) ggL_law_X9_count
set_option maxRecDepth 20000 in
theorem ggL_law_X10_count : GoodIn wsL_law wsX10_count := goodIn_r _ [879, 103, 218, 650, 219, 220, 221, 5, 222, 456, 457, 458, 459, 460, 461, 462, 463, 403, 404, 405, 406, 885, 886, 887, 888, 889, 890, 891, 892, 893, 894, 895, 896, 897, 898] (by decide +kernel) (by decide +kernel)
set_option maxRecDepth 20000 in
theorem gL_law_X10_count : GoodIn wsL_law (wsV RL 136 RX10 yX10_count wsX10_count) := goodIn_app (goodIn_of _ (by decide +kernel)) ggL_law_X10_count
