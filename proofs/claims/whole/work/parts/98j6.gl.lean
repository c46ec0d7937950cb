set_option maxRecDepth 20000 in
theorem ggL_law_X9_water : GoodIn wsL_law wsX9_water := goodIn_r _ [804, 16, 351, 805, 806, 807, 808, 809, 810, 811, 882, 883, 884, 885, 886, 901, 902, 903, 904, 905, 906, 907, 908, 909, 910, 911, 939, 940, 941, 942, 943, 944, 945] (by decide +kernel) (by decide +kernel)
set_option maxRecDepth 20000 in
theorem gL_law_X9_water : GoodIn wsL_law (wsV RL 116 RX9 yX9_water wsX9_water) := goodIn_app (goodIn_of _ (by decide +kernel)) ggL_law_X9_water
set_option maxRecDepth 20000 in
theorem ggL_law_X10_water : GoodIn wsL_law wsX10_water := goodIn_r _ [815, 816, 104, 817, 220, 221, 5, 222, 887, 888, 889, 890, 891, 892, 893, 894, 895, 896, 897, 898, 899, 900] (by decide +kernel) (by decide +kernel)
set_option maxRecDepth 20000 in
theorem gL_law_X10_water : GoodIn wsL_law (wsV RL 120 RX10 yX10_water wsX10_water) := goodIn_app (goodIn_of _ (by decide +kernel)) ggL_law_X10_water
set_option maxRecDepth 20000 in
theorem ggL_law_X9_forecast : GoodIn wsL_law wsX9_forecast := goodIn_r _ [821, 790, 17, 16, 351, 121, 122, 2, 123, 745, 145, 146, 15, 147, 32, 36, 40, 44, 48, 50, 148, 149, 150, 151, 52, 152, 53, 153, 154, 155, 156, 157, 31, 158, 133, 58, 159, 60, 61, 62, 63, 64, 65, 160, 161, 162, 35, 163, 164, 69, 165, 71, 166, 167, 168, 39, 169, 170, 75, 171, 172, 173, 174, 43, 175, 176, 79, 177, 80, 178, 81, 82, 83, 179, 180, 181, 47, 182, 88, 183, 184, 185, 186, 187, 188, 517, 518, 519, 520, 521, 522, 523, 524, 525, 478, 479, 480, 481, 482, 483, 484, 526, 527, 528, 529, 530, 531, 532, 533, 534, 502, 503, 504, 535, 536, 537, 538, 539, 540, 541, 542, 446, 447, 448, 449, 450, 141, 142, 143, 451, 190, 126, 191, 192, 193, 194, 195, 196, 197, 198, 199, 200, 201, 202, 543, 544, 545, 546, 547, 548, 549, 550, 551, 552, 553, 554, 555, 556, 557, 558, 559, 560, 561, 562, 563, 564, 565, 566, 567, 568, 569, 570, 571, 572, 573, 574, 575, 576, 577, 578, 579, 580, 581, 582, 583, 584, 585, 586, 587, 588, 589, 590, 591, 592, 792, 882, 883, 884, 885, 886, 901, 902, 903, 904, 905, 906, 907, 908, 909, 910, 911, 919, 920, 921, 922, 923, 924, 925, 926, 927, 928, 929, 930, 931, 932, 933, 934, 935, 936, 937, 938, 939, 940, 941, 942, 943, 944, 945] (by decide +kernel) (by decide +kernel)
set_option maxRecDepth 20000 in
theorem gL_law_X9_forecast : GoodIn wsL_law (wsV RL 121 RX9 yX9_forecast wsX9_forecast) := goodIn_app (goodIn_of _ (by decide +kernel)) ggL_law_X9_forecast
set_option maxRecDepth 20000 in
theorem ggL_law_X10_forecast : GoodIn wsL_law wsX10_forecast := goodIn_r _ [825, 597, 220, 221, 5, 222, 797, 798, 799, 800, 826, 827, 828, 829, 107, 104, 598, 599, 600, 601, 602, 603, 604, 605, 233, 234, 235, 236, 464, 465, 466, 467, 237, 238, 239, 240, 606, 607, 608, 609, 610, 611, 612, 613, 614, 108, 615, 468, 469, 470, 471, 616, 617, 618, 619, 620, 621, 622, 623, 624, 625, 626, 627, 628, 629, 630, 631, 632, 633, 634, 635, 338, 339, 340, 341, 830, 831, 832, 833, 887, 888, 889, 890, 891, 892, 893, 894, 895, 896, 897, 898, 899, 900] (by decide +kernel) (by decide +kernel)
set_option maxRecDepth 20000 in
theorem gL_law_X10_forecast : GoodIn wsL_law (wsV RL 124 RX10 yX10_forecast wsX10_forecast) := goodIn_app (goodIn_of _ (by decide +kernel)) ggL_law_X10_forecast
set_option maxRecDepth 20000 in
theorem ggL_law_X9_shutIn : GoodIn wsL_law wsX9_shutIn := goodIn_r _ [837, 17, 16, 120, 745, 145, 146, 15, 147, 32, 36, 40, 44, 48, 50, 148, 149, 150, 151, 52, 152, 53, 153, 154, 155, 156, 157, 31, 158, 133, 58, 159, 60, 61, 62, 63, 64, 65, 160, 161, 162, 35, 163, 164, 69, 165, 71, 166, 167, 168, 39, 169, 170, 75, 171, 172, 173, 174, 43, 175, 176, 79, 177, 80, 178, 81, 82, 83, 179, 180, 181, 47, 182, 88, 183, 184, 185, 186, 187, 188, 434, 435, 436, 437, 438, 439, 440, 441, 517, 518, 519, 520, 521, 522, 523, 524, 525, 478, 479, 480, 481, 482, 483, 484, 526, 527, 528, 529, 530, 531, 532, 533, 534, 502, 503, 504, 535, 536, 537, 538, 539, 540, 541, 542, 446, 447, 448, 449, 450, 141, 142, 143, 451, 190, 126, 191, 192, 193, 194, 195, 196, 197, 198, 199, 200, 201, 202, 543, 544, 545, 546, 547, 548, 549, 550, 551, 552, 553, 554, 555, 556, 557, 558, 559, 560, 561, 562, 563, 564, 565, 566, 567, 568, 569, 570, 571, 572, 573, 574, 575, 576, 577, 578, 579, 580, 581, 582, 583, 584, 585, 586, 587, 588, 589, 590, 591, 592, 882, 883, 884, 885, 886, 901, 902, 903, 904, 905, 906, 907, 908, 909, 910, 911, 919, 920, 921, 922, 923, 924, 925, 926, 927, 928, 929, 930, 931, 932, 933, 934, 935, 936, 937, 938, 939, 940, 941, 942, 943, 944, 945] (by decide +kernel) (by decide +kernel)
set_option maxRecDepth 20000 in
theorem gL_law_X9_shutIn : GoodIn wsL_law (wsV RL 125 RX9 yX9_shutIn wsX9_shutIn) := goodIn_app (goodIn_of _ (by decide +kernel)) ggL_law_X9_shutIn
set_option maxRecDepth 20000 in
theorem ggL_law_X10_shutIn : GoodIn wsL_law wsX10_shutIn := goodIn_r _ [841, 826, 827, 828, 5, 829, 107, 104, 456, 457, 458, 459, 460, 461, 462, 463, 464, 465, 466, 467, 233, 234, 235, 236, 598, 599, 600, 601, 602, 603, 604, 605, 237, 238, 239, 240, 606, 607, 608, 609, 610, 611, 612, 613, 614, 108, 615, 468, 469, 470, 471, 616, 617, 618, 619, 620, 621, 622, 623, 624, 625, 626, 627, 628, 629, 630, 631, 632, 633, 634, 635, 338, 339, 340, 341, 830, 831, 832, 833, 887, 888, 889, 890, 891, 892, 893, 894, 895, 896, 897, 898, 899, 900] (by decide +kernel) (by decide +kernel)
set_option maxRecDepth 20000 in
theorem gL_law_X10_shutIn : GoodIn wsL_law (wsV RL 128 RX10 yX10_shutIn wsX10_shutIn) := goodIn_app (goodIn_of _ (by decide +kernel)) ggL_law_X10_shutIn
set_option maxRecDepth 20000 in
theorem ggL_law_X9_tide : GoodIn wsL_law wsX9_tide := goodIn_r _ [845, 16, 390, 811, 391, 392, 2, 393, 882, 883, 884, 885, 886, 901, 902, 903, 904, 905, 906, 907, 908, 909, 910, 911] (by decide +kernel) (by decide +kernel)
set_option maxRecDepth 20000 in
theorem gL_law_X9_tide : GoodIn wsL_law (wsV RL 129 RX9 yX9_tide wsX9_tide) := goodIn_app (goodIn_of _ (by decide +kernel)) ggL_law_X9_tide
set_option maxRecDepth 20000 in
theorem ggL_law_X10_tide : GoodIn wsL_law wsX10_tide := goodIn_r _ [849, 398, 108, 817, 220, 221, 5, 222, 850, 851, 852, 853, 854, 855, 856, 219, 857, 858, 859, 860, 887, 888, 889, 890, 891, 892, 893, 894, 895, 896, 897, 898, 899, 900] (by decide +kernel) (by decide +kernel)
set_option maxRecDepth 20000 in
theorem gL_law_X10_tide : GoodIn wsL_law (wsV RL 132 RX10 yX10_tide wsX10_tide) := goodIn_app (goodIn_of _ (by decide +kernel)) ggL_law_X10_tide
set_option maxRecDepth 20000 in
theorem ggL_law_X9_count : GoodIn wsL_law wsX9_count := goodIn_r _ [864, 16, 744, 424, 120, 245, 865, 866, 351, 352, 283, 357, 477, 478, 479, 31, 480, 133, 481, 482, 483, 484, 63, 476, 439, 440, 441, 408, 409, 410, 35, 411, 164, 71, 69, 867, 431, 432, 433, 868, 869, 870, 2, 871, 872, 873, 264, 874, 875, 21, 730, 25, 876, 877, 882, 883, 884, 885, 886, 901, 902, 903, 904, 905, 906, 907, 908, 909, 910, 911, 939, 940, 941, 942, 943, 944, 945, 932, 933, 934, 935, 936, 937, 938, 919, 920, 921, 922, 923, 924, 925, 926, 927, 928, 929, 930, 931, 912, 913, 914, 915, 916, 917, 918] (by decide +kernel) (by decide +kernel)
set_option maxRecDepth 20000 in
theorem gL_law_X9_count : GoodIn wsL_law (wsV RL 133 RX9 yX9_count wsX9_count) := goodIn_app (goodIn_of _ (by decide +kernel)) ggL_law_X9_count
set_option maxRecDepth 20000 in
theorem ggL_law_X10_count : GoodIn wsL_law wsX10_count := goodIn_r _ [881, 104, 232, 653, 233, 234, 235, 5, 236, 460, 461, 462, 463, 464, 465, 466, 467, 416, 417, 418, 419, 887, 888, 889, 890, 891, 892, 893, 894, 895, 896, 897, 898, 899, 900] (by decide +kernel) (by decide +kernel)
set_option maxRecDepth 20000 in
theorem gL_law_X10_count : GoodIn wsL_law (wsV RL 136 RX10 yX10_count wsX10_count) := goodIn_app (goodIn_of _ (by decide +kernel)) ggL_law_X10_count
