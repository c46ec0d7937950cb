set_option maxRecDepth 20000 in
theorem wsL_law_in : ∀ w ∈ wsL_law, w ∈ lw_tbl := fun w h => (goodIn_p wsL_law [53, 56, 61, 67, 107, 126, 141, 176, 258, 277, 746, 314, 317, 320, 325, 329, 332, 337, 341, 348, 353, 358, 363, 368, 798, 802, 806, 818, 822, 826, 372, 376, 380, 830, 384, 389, 393, 835, 397, 401, 405, 841, 409, 413, 845, 849, 853, 417, 421, 425, 857, 861, 865, 429, 433, 438, 869, 442, 445, 450, 876, 880, 454, 457, 885, 461, 465, 469, 890, 894, 473, 477, 482, 486, 490, 494, 498, 502, 507, 898, 902, 906, 910, 914, 512, 517, 521, 918, 525, 529, 534, 538, 923, 542, 546, 550, 555, 559, 564, 568, 572, 576, 581, 585, 588, 594, 598, 602, 606, 610, 614, 618, 927, 932, 936, 940, 944, 948, 953, 957, 962, 966, 623, 627, 631, 970, 635, 639, 974, 643, 647, 650, 653, 657, 661, 665, 668, 671, 674, 978, 982, 986, 990, 682, 686, 995, 690, 999, 695, 1003, 699, 1007, 703, 707, 1011, 711, 1015, 1018, 719, 1023, 724, 1029, 1033, 1037, 728, 1041, 732, 1045, 1048, 1051, 736, 741, 1059] (by decide +kernel) (by decide +kernel) w h).1
theorem inlX0 : ∀ w ∈ wsX00, w ∈ wsL_law := fun _ h => List.mem_append_left _ (List.mem_append_right _ h)
theorem inX0 : ∀ w ∈ wsX00, w ∈ lw_tbl := fun w h => wsL_law_in w (inlX0 w h)
theorem inlX1 : ∀ w ∈ wsX10, w ∈ wsL_law := fun _ h => List.mem_append_left _ (List.mem_append_left _ (List.mem_append_left _ (List.mem_append_left _ (List.mem_append_right _ h))))
theorem inX1 : ∀ w ∈ wsX10, w ∈ lw_tbl := fun w h => wsL_law_in w (inlX1 w h)
theorem inlX2 : ∀ w ∈ wsX20, w ∈ wsL_law := fun _ h => List.mem_append_left _ (List.mem_append_left _ (List.mem_append_left _ (List.mem_append_left _ (List.mem_append_left _ (List.mem_append_left _ (List.mem_append_left _ (List.mem_append_right _ h)))))))
theorem inX2 : ∀ w ∈ wsX20, w ∈ lw_tbl := fun w h => wsL_law_in w (inlX2 w h)
theorem inX3 : ∀ w ∈ wsX30, w ∈ lw_tbl := by decide +kernel
theorem inlX4 : ∀ w ∈ wsX40, w ∈ wsL_law := fun _ h => List.mem_append_left _ (List.mem_append_left _ (List.mem_append_right _ h))
theorem inX4 : ∀ w ∈ wsX40, w ∈ lw_tbl := fun w h => wsL_law_in w (inlX4 w h)
theorem inlX5 : ∀ w ∈ wsX50, w ∈ wsL_law := fun _ h => List.mem_append_left _ (List.mem_append_left _ (List.mem_append_left _ (List.mem_append_left _ (List.mem_append_left _ (List.mem_append_right _ h)))))
theorem inX5 : ∀ w ∈ wsX50, w ∈ lw_tbl := fun w h => wsL_law_in w (inlX5 w h)
theorem inlX6 : ∀ w ∈ wsX60, w ∈ wsL_law := fun _ h => List.mem_append_left _ (List.mem_append_left _ (List.mem_append_left _ (List.mem_append_left _ (List.mem_append_left _ (List.mem_append_left _ (List.mem_append_left _ (List.mem_append_left _ (List.mem_append_right _ h))))))))
theorem inX6 : ∀ w ∈ wsX60, w ∈ lw_tbl := fun w h => wsL_law_in w (inlX6 w h)
theorem inlX7 : ∀ w ∈ wsX70, w ∈ wsL_law := fun _ h => List.mem_append_left _ (List.mem_append_left _ (List.mem_append_left _ (List.mem_append_right _ h)))
theorem inX7 : ∀ w ∈ wsX70, w ∈ lw_tbl := fun w h => wsL_law_in w (inlX7 w h)
theorem inlX8 : ∀ w ∈ wsX80, w ∈ wsL_law := fun _ h => List.mem_append_left _ (List.mem_append_left _ (List.mem_append_left _ (List.mem_append_left _ (List.mem_append_left _ (List.mem_append_left _ (List.mem_append_right _ h))))))
theorem inX8 : ∀ w ∈ wsX80, w ∈ lw_tbl := fun w h => wsL_law_in w (inlX8 w h)
theorem inlX9 : ∀ w ∈ wsX90, w ∈ wsL_law := fun _ h => List.mem_append_left _ (List.mem_append_left _ (List.mem_append_left _ (List.mem_append_left _ (List.mem_append_left _ (List.mem_append_left _ (List.mem_append_left _ (List.mem_append_left _ (List.mem_append_left _ (List.mem_append_left _ (List.mem_append_right _ h))))))))))
theorem inX9 : ∀ w ∈ wsX90, w ∈ lw_tbl := fun w h => wsL_law_in w (inlX9 w h)
theorem inlX10 : ∀ w ∈ wsX100, w ∈ wsL_law := fun _ h => List.mem_append_left _ (List.mem_append_left _ (List.mem_append_left _ (List.mem_append_left _ (List.mem_append_left _ (List.mem_append_left _ (List.mem_append_left _ (List.mem_append_left _ (List.mem_append_left _ (List.mem_append_right _ h)))))))))
theorem inX10 : ∀ w ∈ wsX100, w ∈ lw_tbl := fun w h => wsL_law_in w (inlX10 w h)
theorem inJxe99ae : ∀ w ∈ wsJxe99ae0, w ∈ lw_tbl := by decide +kernel
theorem inJ9 : ∀ w ∈ wsJ90, w ∈ lw_tbl := by decide +kernel
theorem inJ10 : ∀ w ∈ wsJ100, w ∈ lw_tbl := by decide +kernel
set_option maxRecDepth 20000 in
theorem ggL_law_X9_init : GoodIn wsL_law wsX9_init := goodIn_r _ [9, 10, 11, 12, 13, 14, 15, 16, 17, 18, 19, 20, 21, 22, 23, 24, 25, 26, 27, 28, 29, 30, 31, 32, 33, 34, 35, 36, 37, 38, 39, 40, 41, 42, 43, 44, 45, 46, 47, 48, 49, 50, 51, 52, 53, 54, 55, 56, 57, 58, 59, 60, 61, 62, 63, 64, 65, 66, 67, 68, 69, 70, 71, 72, 73, 74, 75, 76, 77, 78, 79, 80, 81, 82, 83, 84, 85, 86, 87, 88, 89, 90, 91, 92, 93, 94, 95, 96, 97, 98, 899, 900, 901, 902, 903, 904, 905, 906, 907, 908, 909, 880, 881, 882, 883, 884, 910, 911, 912, 913, 914, 915, 916, 917, 918, 919, 920, 921, 922, 923, 924, 925, 926, 927, 928, 929, 930, 931, 932, 933, 934, 935, 936, 937, 938, 939, 940, 941, 942, 943] (by decide +kernel) (by decide +kernel)
set_option maxRecDepth 20000 in
theorem gL_law_X9_init : GoodIn wsL_law (wsX9_init) := ggL_law_X9_init
set_option maxRecDepth 20000 in
theorem ggL_law_X10_init : GoodIn wsL_law wsX10_init := goodIn_r _ [101, 102, 11, 12, 49, 103, 104, 105, 106, 107, 108, 109, 110, 96, 111, 57, 112, 113, 114, 115, 885, 886, 887, 888, 889, 890, 891, 892, 893, 894, 895, 896, 897, 898] (by decide +kernel) (by decide +kernel)
set_option maxRecDepth 20000 in
theorem gL_law_X10_init : GoodIn wsL_law (wsX10_init) := ggL_law_X10_init
set_option maxRecDepth 20000 in
theorem ggL_law_X9_addSection : GoodIn wsL_law wsX9_addSection := goodIn_r _ [119, 16, 120, 21, 121, 122, 2, 123, 124, 125, 126, 127, 128, 129, 130, 131, 31, 132, 133, 134, 135, 136, 20, 137, 138, 139, 92, 91, 14, 15, 140, 141, 142, 143, 26, 27, 28, 11, 12, 29, 30, 32, 33, 34, 35, 36, 37, 38, 39, 40, 41, 42, 43, 44, 45, 46, 47, 48, 49, 50, 51, 52, 53, 54, 55, 56, 57, 58, 59, 60, 61, 62, 63, 64, 65, 66, 67, 68, 69, 70, 71, 72, 73, 74, 75, 76, 77, 78, 79, 80, 81, 82, 83, 84, 85, 86, 87, 144, 145, 146, 147, 148, 149, 150, 151, 152, 153, 154, 155, 156, 157, 158, 159, 160, 161, 162, 163, 164, 165, 166, 167, 168, 169, 170, 171, 172, 173, 174, 175, 176, 177, 178, 179, 180, 181, 182, 183, 184, 185, 186, 187, 188, 189, 190, 191, 192, 880, 881, 882, 883, 884, 899, 900, 901, 902, 903, 904, 905, 906, 907, 908, 909, 917, 918, 919, 920, 921, 922, 923, 924, 910, 911, 912, 925, 926, 927, 928, 929, 930, 931, 932, 933, 934, 935, 936, 937, 938, 939, 940, 941, 942, 943] (by decide +kernel) (by decide +kernel)
set_option maxRecDepth 20000 in
theorem gL_law_X9_addSection : GoodIn wsL_law (wsV RL 15 RX9 yX9_addSection wsX9_addSection) := goodIn_app (goodIn_of _ (by decide +kernel)) ggL_law_X9_addSection
set_option maxRecDepth 20000 in
theorem ggL_law_X10_addSection : GoodIn wsL_law wsX10_addSection := goodIn_r _ [196, 197, 198, 199, 200, 103, 201, 108, 202, 203, 204, 205, 206, 207, 5, 208, 209, 210, 211, 212, 213, 214, 215, 216, 217, 218, 104, 109, 219, 220, 221, 222, 223, 224, 225, 226, 885, 886, 887, 888, 889, 890, 891, 892, 893, 894, 895, 896, 897, 898] (by decide +kernel) (by decide +kernel)
set_option maxRecDepth 20000 in
theorem gL_law_X10_addSection : GoodIn wsL_law (wsV RL 19 RX10 yX10_addSection wsX10_addSection) := goodIn_app (goodIn_of _ (by decide +kernel)) ggL_law_X10_addSection
set_option maxRecDepth 20000 in
theorem ggL_law_X9_addDistrict : GoodIn wsL_law wsX9_addDistrict := goodIn_r _ [230, 16, 231, 21, 121, 122, 2, 123, 232, 233, 234, 35, 235, 164, 134, 135, 136, 20, 137, 138, 139, 92, 91, 14, 15, 140, 141, 142, 143, 26, 27, 28, 11, 12, 29, 30, 31, 32, 33, 34, 36, 37, 38, 39, 40, 41, 42, 43, 44, 45, 46, 47, 48, 49, 50, 51, 52, 53, 54, 55, 56, 57, 58, 59, 60, 61, 62, 63, 64, 65, 66, 67, 68, 69, 70, 71, 72, 73, 74, 75, 76, 77, 78, 79, 80, 81, 82, 83, 84, 85, 86, 87, 144, 145, 146, 147, 148, 149, 150, 151, 152, 153, 154, 155, 156, 157, 158, 133, 159, 160, 161, 162, 163, 165, 166, 167, 168, 169, 170, 171, 172, 173, 174, 175, 176, 177, 178, 179, 180, 181, 182, 183, 184, 185, 186, 187, 188, 236, 237, 238, 239, 880, 881, 882, 883, 884, 899, 900, 901, 902, 903, 904, 905, 906, 907, 908, 909, 925, 926, 927, 910, 911, 912, 917, 918, 919, 920, 921, 922, 923, 924, 928, 929, 930, 931, 932, 933, 934, 935, 936, 937, 938, 939, 940, 941, 942, 943] (by decide +kernel) (by decide +kernel)
set_option maxRecDepth 20000 in
theorem gL_law_X9_addDistrict : GoodIn wsL_law (wsV RL 20 RX9 yX9_addDistrict wsX9_addDistrict) := goodIn_app (goodIn_of _ (by decide +kernel)) ggL_law_X9_addDistrict
set_option maxRecDepth 20000 in
theorem ggL_law_X10_addDistrict : GoodIn wsL_law wsX10_addDistrict := goodIn_r _ [243, 244, 103, 199, 206, 207, 5, 208, 214, 215, 216, 217, 218, 104, 109, 108, 219, 220, 221, 222, 885, 886, 887, 888, 889, 890, 891, 892, 893, 894, 895, 896, 897, 898] (by decide +kernel) (by decide +kernel)
set_option maxRecDepth 20000 in
theorem gL_law_X10_addDistrict : GoodIn wsL_law (wsV RL 24 RX10 yX10_addDistrict wsX10_addDistrict) := goodIn_app (goodIn_of _ (by decide +kernel)) ggL_law_X10_addDistrict
set_option maxRecDepth 20000 in
theorem ggL_law_X9_addStream : GoodIn wsL_law wsX9_addStream := goodIn_r _ [248, 249, 16, 250, 21, 121, 122, 2, 123, 251, 252, 253, 39, 254, 170, 134, 135, 136, 20, 137, 138, 139, 92, 91, 14, 15, 140, 141, 142, 143, 26, 27, 28, 11, 12, 29, 30, 31, 32, 33, 34, 35, 36, 37, 38, 40, 41, 42, 43, 44, 45, 46, 47, 48, 49, 50, 51, 52, 53, 54, 55, 56, 57, 58, 59, 60, 61, 62, 63, 64, 65, 66, 67, 68, 69, 70, 71, 72, 73, 74, 75, 76, 77, 78, 79, 80, 81, 82, 83, 84, 85, 86, 87, 144, 145, 146, 147, 148, 149, 150, 151, 152, 153, 154, 155, 156, 157, 158, 133, 159, 160, 161, 162, 163, 164, 165, 166, 167, 168, 169, 171, 172, 173, 174, 175, 176, 177, 178, 179, 180, 181, 182, 183, 184, 185, 186, 187, 188, 255, 256, 257, 258, 880, 881, 882, 883, 884, 899, 900, 901, 902, 903, 904, 905, 906, 907, 908, 909, 928, 929, 910, 911, 912, 917, 918, 919, 920, 921, 922, 923, 924, 925, 926, 927, 930, 931, 932, 933, 934, 935, 936, 937, 938, 939, 940, 941, 942, 943] (by decide +kernel) (by decide +kernel)
set_option maxRecDepth 20000 in
theorem gL_law_X9_addStream : GoodIn wsL_law (wsV RL 25 RX9 yX9_addStream wsX9_addStream) := goodIn_app (goodIn_of _ (by decide +kernel)) ggL_law_X9_addStream
set_option maxRecDepth 20000 in
theorem ggL_law_X10_addStream : GoodIn wsL_law wsX10_addStream := goodIn_r _ [262, 263, 103, 264, 206, 207, 5, 208, 214, 215, 216, 217, 218, 104, 109, 108, 219, 220, 221, 222, 885, 886, 887, 888, 889, 890, 891, 892, 893, 894, 895, 896, 897, 898] (by decide +kernel) (by decide +kernel)
set_option maxRecDepth 20000 in
theorem gL_law_X10_addStream : GoodIn wsL_law (wsV RL 28 RX10 yX10_addStream wsX10_addStream) := goodIn_app (goodIn_of _ (by decide +kernel)) ggL_law_X10_addStream
set_option maxRecDepth 20000 in
theorem ggL_law_X9_addPump : GoodIn wsL_law wsX9_addPump := goodIn_r _ [268, 249, 16, 269, 21, 121, 122, 2, 123, 270, 271, 272, 43, 273, 176, 134, 135, 136, 20, 137, 138, 139, 92, 91, 14, 15, 140, 141, 142, 143, 26, 27, 28, 11, 12, 29, 30, 31, 32, 33, 34, 35, 36, 37, 38, 39, 40, 41, 42, 44, 45, 46, 47, 48, 49, 50, 51, 52, 53, 54, 55, 56, 57, 58, 59, 60, 61, 62, 63, 64, 65, 66, 67, 68, 69, 70, 71, 72, 73, 74, 75, 76, 77, 78, 79, 80, 81, 82, 83, 84, 85, 86, 87, 144, 145, 146, 147, 148, 149, 150, 151, 152, 153, 154, 155, 156, 157, 158, 133, 159, 160, 161, 162, 163, 164, 165, 166, 167, 168, 169, 170, 171, 172, 173, 174, 175, 177, 178, 179, 180, 181, 182, 183, 184, 185, 186, 187, 188, 274, 275, 276, 277, 880, 881, 882, 883, 884, 899, 900, 901, 902, 903, 904, 905, 906, 907, 908, 909, 930, 931, 932, 933, 934, 935, 936, 910, 911, 912, 917, 918, 919, 920, 921, 922, 923, 924, 925, 926, 927, 928, 929, 937, 938, 939, 940, 941, 942, 943] (by decide +kernel) (by decide +kernel)
set_option maxRecDepth 20000 in
theorem gL_law_X9_addPump : GoodIn wsL_law (wsV RL 29 RX9 yX9_addPump wsX9_addPump) := goodIn_app (goodIn_of _ (by decide +kernel)) ggL_law_X9_addPump
set_option maxRecDepth 20000 in
theorem ggL_law_X10_addPump : GoodIn wsL_law wsX10_addPump := goodIn_r _ [281, 244, 263, 103, 199, 206, 207, 5, 208, 214, 215, 216, 217, 218, 104, 109, 108, 219, 220, 221, 222, 885, 886, 887, 888, 889, 890, 891, 892, 893, 894, 895, 896, 897, 898] (by decide +kernel) (by decide +kernel)
set_option maxRecDepth 20000 in
theorem gL_law_X10_addPump : GoodIn wsL_law (wsV RL 33 RX10 yX10_addPump wsX10_addPump) := goodIn_app (goodIn_of _ (by decide +kernel)) ggL_law_X10_addPump
set_option maxRecDepth 20000 in
theorem ggL_law_X9_setStream : GoodIn wsL_law wsX9_setStream := goodIn_r _ [285, 16, 250, 249, 286, 21, 287, 288, 289, 39, 290, 170, 121, 122, 2, 123, 134, 135, 136, 20, 137, 138, 139, 92, 91, 14, 15, 140, 141, 142, 143, 26, 27, 28, 11, 12, 29, 30, 31, 32, 33, 34, 35, 36, 37, 38, 40, 41, 42, 43, 44, 45, 46, 47, 48, 49, 50, 51, 52, 53, 54, 55, 56, 57, 58, 59, 60, 61, 62, 63, 64, 65, 66, 67, 68, 69, 70, 71, 72, 73, 74, 75, 76, 77, 78, 79, 80, 81, 82, 83, 84, 85, 86, 87, 144, 145, 146, 147, 148, 149, 150, 151, 152, 153, 154, 155, 156, 157, 158, 133, 159, 160, 161, 162, 163, 164, 165, 166, 167, 168, 169, 171, 172, 173, 174, 175, 176, 177, 178, 179, 180, 181, 182, 183, 184, 185, 186, 187, 188, 880, 881, 882, 883, 884, 899, 900, 901, 902, 903, 904, 905, 906, 907, 908, 909, 928, 929, 910, 911, 912, 917, 918, 919, 920, 921, 922, 923, 924, 925, 926, 927, 930, 931, 932, 933, 934, 935, 936, 937, 938, 939, 940, 941, 942, 943] (by decide +kernel) (by decide +kernel)
set_option maxRecDepth 20000 in
theorem gL_law_X9_setStream : GoodIn wsL_law (wsV RL 34 RX9 yX9_setStream wsX9_setStream) := goodIn_app (goodIn_of _ (by decide +kernel)) ggL_law_X9_setStream
set_option maxRecDepth 20000 in
theorem ggL_law_X10_setStream : GoodIn wsL_law wsX10_setStream := goodIn_r _ [294, 263, 295, 296, 297, 5, 298, 103, 206, 207, 208, 299, 300, 301, 302, 219, 220, 221, 222, 214, 215, 216, 217, 218, 104, 109, 108, 885, 886, 887, 888, 889, 890, 891, 892, 893, 894, 895, 896, 897, 898] (by decide +kernel) (by decide +kernel)
set_option maxRecDepth 20000 in
theorem gL_law_X10_setStream : GoodIn wsL_law (wsV RL 37 RX10 yX10_setStream wsX10_setStream) := goodIn_app (goodIn_of _ (by decide +kernel)) ggL_law_X10_setStream
set_option maxRecDepth 20000 in
theorem ggL_law_X9_switchPump : GoodIn wsL_law wsX9_switchPump := goodIn_r _ [306, 16, 269, 307, 21, 308, 309, 310, 43, 311, 176, 134, 135, 136, 20, 137, 138, 139, 92, 91, 14, 15, 140, 141, 142, 143, 26, 27, 28, 11, 12, 29, 30, 31, 32, 33, 34, 35, 36, 37, 38, 39, 40, 41, 42, 44, 45, 46, 47, 48, 49, 50, 51, 52, 53, 54, 55, 56, 57, 58, 59, 60, 61, 62, 63, 64, 65, 66, 67, 68, 69, 70, 71, 72, 73, 74, 75, 76, 77, 78, 79, 80, 81, 82, 83, 84, 85, 86, 87, 144, 145, 146, 147, 148, 149, 150, 151, 152, 153, 154, 155, 156, 157, 158, 133, 159, 160, 161, 162, 163, 164, 165, 166, 167, 168, 169, 170, 171, 172, 173, 174, 175, 177, 178, 179, 180, 181, 182, 183, 184, 185, 186, 187, 188, 312, 313, 314, 315, 880, 881, 882, 883, 884, 899, 900, 901, 902, 903, 904, 905, 906, 907, 908, 909, 930, 931, 932, 933, 934, 935, 936, 910, 911, 912, 917, 918, 919, 920, 921, 922, 923, 924, 925, 926, 927, 928, 929, 937, 938, 939, 940, 941, 942, 943] (by decide +kernel) (by decide +kernel)
set_option maxRecDepth 20000 in
theorem gL_law_X9_switchPump : GoodIn wsL_law (wsV RL 38 RX9 yX9_switchPump wsX9_switchPump) := goodIn_app (goodIn_of _ (by decide +kernel)) ggL_law_X9_switchPump
set_option maxRecDepth 20000 in
theorem ggL_law_X10_switchPump : GoodIn wsL_law wsX10_switchPump := goodIn_r _ [319, 295, 296, 297, 5, 298, 103, 206, 207, 208, 299, 300, 301, 302, 219, 220, 221, 222, 214, 215, 216, 217, 218, 104, 109, 108, 320, 321, 322, 323, 324, 325, 326, 327, 885, 886, 887, 888, 889, 890, 891, 892, 893, 894, 895, 896, 897, 898] (by decide +kernel) (by decide +kernel)
set_option maxRecDepth 20000 in
theorem gL_law_X10_switchPump : GoodIn wsL_law (wsV RL 42 RX10 yX10_switchPump wsX10_switchPump) := goodIn_app (goodIn_of _ (by decide +kernel)) ggL_law_X10_switchPump
set_option maxRecDepth 20000 in
theorem ggL_law_X9_set : GoodIn wsL_law wsX9_set := goodIn_r _ [331, 332, 333, 334, 2, 335, 336, 16, 337, 338, 21, 121, 122, 123, 134, 135, 136, 20, 137, 138, 139, 92, 91, 14, 15, 140, 141, 142, 143, 26, 27, 28, 11, 12, 29, 30, 31, 32, 33, 34, 35, 36, 37, 38, 39, 40, 41, 42, 43, 44, 45, 46, 47, 48, 49, 50, 51, 52, 53, 54, 55, 56, 57, 58, 59, 60, 61, 62, 63, 64, 65, 66, 67, 68, 69, 70, 71, 72, 73, 74, 75, 76, 77, 78, 79, 80, 81, 82, 83, 84, 85, 86, 87, 144, 145, 146, 147, 148, 149, 150, 151, 152, 153, 154, 155, 156, 157, 158, 133, 159, 160, 161, 162, 163, 164, 165, 166, 167, 168, 169, 170, 171, 172, 173, 174, 175, 176, 177, 178, 179, 180, 181, 182, 183, 184, 185, 186, 187, 188, 339, 340, 341, 342, 269, 343, 880, 881, 882, 883, 884, 899, 900, 901, 902, 903, 904, 905, 906, 907, 908, 909, 937, 938, 939, 940, 941, 942, 943, 910, 911, 912, 917, 918, 919, 920, 921, 922, 923, 924, 925, 926, 927, 928, 929, 930, 931, 932, 933, 934, 935, 936] (by decide +kernel) (by decide +kernel)
set_option maxRecDepth 20000 in
theorem gL_law_X9_set : GoodIn wsL_law (wsV RL 43 RX9 yX9_set wsX9_set) := goodIn_app (goodIn_of _ (by decide +kernel)) ggL_law_X9_set
set_option maxRecDepth 20000 in
theorem ggL_law_X10_set : GoodIn wsL_law wsX10_set := goodIn_r _ [347, 348, 349, 350, 206, 207, 5, 208, 299, 300, 301, 302, 103, 219, 220, 221, 222, 214, 215, 216, 217, 218, 104, 109, 108, 885, 886, 887, 888, 889, 890, 891, 892, 893, 894, 895, 896, 897, 898] (by decide +kernel) (by decide +kernel)
set_option maxRecDepth 20000 in
theorem gL_law_X10_set : GoodIn wsL_law (wsV RL 46 RX10 yX10_set wsX10_set) := goodIn_app (goodIn_of _ (by decide +kernel)) ggL_law_X10_set
set_option maxRecDepth 20000 in
theorem ggL_law_X9_setAlarm : GoodIn wsL_law wsX9_setAlarm := goodIn_r _ [354, 16, 355, 21, 356, 357, 126, 358, 359, 360, 128, 361, 362, 363, 134, 135, 136, 20, 137, 138, 139, 92, 91, 14, 15, 140, 141, 142, 143, 26, 27, 28, 11, 12, 29, 30, 31, 32, 33, 34, 35, 36, 37, 38, 39, 40, 41, 42, 43, 44, 45, 46, 47, 48, 49, 50, 51, 52, 53, 54, 55, 56, 57, 58, 59, 60, 61, 62, 63, 64, 65, 66, 67, 68, 69, 70, 71, 72, 73, 74, 75, 76, 77, 78, 79, 80, 81, 82, 83, 84, 85, 86, 87, 144, 145, 146, 147, 148, 149, 150, 151, 152, 153, 154, 155, 156, 157, 158, 133, 159, 160, 161, 162, 163, 164, 165, 166, 167, 168, 169, 170, 171, 172, 173, 174, 175, 176, 177, 178, 179, 180, 181, 182, 183, 184, 185, 186, 187, 188, 880, 881, 882, 883, 884, 899, 900, 901, 902, 903, 904, 905, 906, 907, 908, 909, 910, 911, 912, 917, 918, 919, 920, 921, 922, 923, 924, 925, 926, 927, 928, 929, 930, 931, 932, 933, 934, 935, 936, 937, 938, 939, 940, 941, 942, 943] (by decide +kernel) (by decide +kernel)
set_option maxRecDepth 20000 in
theorem gL_law_X9_setAlarm : GoodIn wsL_law (wsV RL 47 RX9 yX9_setAlarm wsX9_setAlarm) := goodIn_app (goodIn_of _ (by decide +kernel)) ggL_law_X9_setAlarm
set_option maxRecDepth 20000 in
theorem ggL_law_X10_setAlarm : GoodIn wsL_law wsX10_setAlarm := goodIn_r _ [367, 368, 369, 370, 5, 371, 372, 198, 202, 203, 204, 205, 108, 209, 210, 211, 212, 213, 214, 215, 216, 217, 218, 104, 109, 103, 885, 886, 887, 888, 889, 890, 891, 892, 893, 894, 895, 896, 897, 898] (by decide +kernel) (by decide +kernel)
set_option maxRecDepth 20000 in
theorem gL_law_X10_setAlarm : GoodIn wsL_law (wsV RL 51 RX10 yX10_setAlarm wsX10_setAlarm) := goodIn_app (goodIn_of _ (by decide +kernel)) ggL_law_X10_setAlarm
set_option maxRecDepth 20000 in
theorem ggL_law_X9_setTide : GoodIn wsL_law wsX9_setTide := goodIn_r _ [376, 16, 377, 21, 378, 379, 2, 380, 356, 357, 126, 358, 359, 360, 128, 361, 362, 363, 134, 135, 136, 20, 137, 138, 139, 92, 91, 14, 15, 140, 141, 142, 143, 26, 27, 28, 11, 12, 29, 30, 31, 32, 33, 34, 35, 36, 37, 38, 39, 40, 41, 42, 43, 44, 45, 46, 47, 48, 49, 50, 51, 52, 53, 54, 55, 56, 57, 58, 59, 60, 61, 62, 63, 64, 65, 66, 67, 68, 69, 70, 71, 72, 73, 74, 75, 76, 77, 78, 79, 80, 81, 82, 83, 84, 85, 86, 87, 144, 145, 146, 147, 148, 149, 150, 151, 152, 153, 154, 155, 156, 157, 158, 133, 159, 160, 161, 162, 163, 164, 165, 166, 167, 168, 169, 170, 171, 172, 173, 174, 175, 176, 177, 178, 179, 180, 181, 182, 183, 184, 185, 186, 187, 188, 880, 881, 882, 883, 884, 899, 900, 901, 902, 903, 904, 905, 906, 907, 908, 909, 910, 911, 912, 917, 918, 919, 920, 921, 922, 923, 924, 925, 926, 927, 928, 929, 930, 931, 932, 933, 934, 935, 936, 937, 938, 939, 940, 941, 942, 943] (by decide +kernel) (by decide +kernel)
set_option maxRecDepth 20000 in
theorem gL_law_X9_setTide : GoodIn wsL_law (wsV RL 52 RX9 yX9_setTide wsX9_setTide) := goodIn_app (goodIn_of _ (by decide +kernel)) ggL_law_X9_setTide
set_option maxRecDepth 20000 in
theorem ggL_law_X10_setTide : GoodIn wsL_law wsX10_setTide := goodIn_r _ [384, 385, 206, 207, 5, 208, 368, 369, 370, 371, 372, 198, 202, 203, 204, 205, 108, 209, 210, 211, 212, 213, 214, 215, 216, 217, 218, 104, 109, 103, 885, 886, 887, 888, 889, 890, 891, 892, 893, 894, 895, 896, 897, 898] (by decide +kernel) (by decide +kernel)
set_option maxRecDepth 20000 in
theorem gL_law_X10_setTide : GoodIn wsL_law (wsV RL 56 RX10 yX10_setTide wsX10_setTide) := goodIn_app (goodIn_of _ (by decide +kernel)) ggL_law_X10_setTide
set_option maxRecDepth 20000 in
theorem ggL_law_X9_vote : GoodIn wsL_law wsX9_vote := goodIn_r _ [389, 16, 231, 390, 21, 391, 392, 393, 35, 394, 164, 134, 135, 136, 20, 137, 138, 139, 92, 91, 14, 15, 140, 141, 142, 143, 26, 27, 28, 11, 12, 29, 30, 31, 32, 33, 34, 36, 37, 38, 39, 40, 41, 42, 43, 44, 45, 46, 47, 48, 49, 50, 51, 52, 53, 54, 55, 56, 57, 58, 59, 60, 61, 62, 63, 64, 65, 66, 67, 68, 69, 70, 71, 72, 73, 74, 75, 76, 77, 78, 79, 80, 81, 82, 83, 84, 85, 86, 87, 144, 145, 146, 147, 148, 149, 150, 151, 152, 153, 154, 155, 156, 157, 158, 133, 159, 160, 161, 162, 163, 165, 166, 167, 168, 169, 170, 171, 172, 173, 174, 175, 176, 177, 178, 179, 180, 181, 182, 183, 184, 185, 186, 187, 188, 395, 396, 397, 398, 880, 881, 882, 883, 884, 899, 900, 901, 902, 903, 904, 905, 906, 907, 908, 909, 925, 926, 927, 910, 911, 912, 917, 918, 919, 920, 921, 922, 923, 924, 928, 929, 930, 931, 932, 933, 934, 935, 936, 937, 938, 939, 940, 941, 942, 943] (by decide +kernel) (by decide +kernel)
set_option maxRecDepth 20000 in
theorem gL_law_X9_vote : GoodIn wsL_law (wsV RL 57 RX9 yX9_vote wsX9_vote) := goodIn_app (goodIn_of _ (by decide +kernel)) ggL_law_X9_vote
set_option maxRecDepth 20000 in
theorem ggL_law_X10_vote : GoodIn wsL_law wsX10_vote := goodIn_r _ [402, 295, 296, 297, 5, 298, 103, 206, 207, 208, 299, 300, 301, 302, 219, 220, 221, 222, 214, 215, 216, 217, 218, 104, 109, 108, 403, 404, 405, 406, 885, 886, 887, 888, 889, 890, 891, 892, 893, 894, 895, 896, 897, 898] (by decide +kernel) (by decide +kernel)
set_option maxRecDepth 20000 in
theorem gL_law_X10_vote : GoodIn wsL_law (wsV RL 60 RX10 yX10_vote wsX10_vote) := goodIn_app (goodIn_of _ (by decide +kernel)) ggL_law_X10_vote
set_option maxRecDepth 20000 in
theorem ggL_law_X9_close : GoodIn wsL_law wsX9_close := goodIn_r _ [410, 16, 231, 120, 411, 21, 412, 413, 414, 35, 415, 416, 396, 397, 398, 164, 70, 68, 417, 418, 419, 420, 421, 422, 423, 31, 424, 133, 425, 426, 427, 428, 62, 134, 135, 136, 20, 137, 138, 139, 92, 91, 14, 15, 140, 141, 142, 143, 26, 27, 28, 11, 12, 29, 30, 32, 33, 34, 36, 37, 38, 39, 40, 41, 42, 43, 44, 45, 46, 47, 48, 49, 50, 51, 52, 53, 54, 55, 56, 57, 58, 59, 60, 61, 63, 64, 65, 66, 67, 69, 71, 72, 73, 74, 75, 76, 77, 78, 79, 80, 81, 82, 83, 84, 85, 86, 87, 144, 145, 146, 147, 148, 149, 150, 151, 152, 153, 154, 155, 156, 157, 158, 159, 160, 161, 162, 163, 165, 166, 167, 168, 169, 170, 171, 172, 173, 174, 175, 176, 177, 178, 179, 180, 181, 182, 183, 184, 185, 186, 187, 188, 429, 430, 431, 432, 433, 434, 435, 436, 437, 438, 439, 126, 440, 359, 441, 442, 443, 444, 445, 446, 447, 880, 881, 882, 883, 884, 899, 900, 901, 902, 903, 904, 905, 906, 907, 908, 909, 925, 926, 927, 917, 918, 919, 920, 921, 922, 923, 924, 910, 911, 912, 928, 929, 930, 931, 932, 933, 934, 935, 936, 937, 938, 939, 940, 941, 942, 943] (by decide +kernel) (by decide +kernel)
set_option maxRecDepth 20000 in
theorem gL_law_X9_close : GoodIn wsL_law (wsV RL 61 RX9 yX9_close wsX9_close) := goodIn_app (goodIn_of _ (by decide +kernel)) ggL_law_X9_close
set_option maxRecDepth 20000 in
theorem ggL_law_X10_close : GoodIn wsL_law wsX10_close := goodIn_r _ [451, 103, 108, 403, 404, 405, 5, 406, 219, 220, 221, 222, 452, 453, 454, 455, 456, 457, 458, 459, 460, 461, 462, 463, 214, 215, 216, 217, 218, 104, 109, 464, 465, 466, 467, 885, 886, 887, 888, 889, 890, 891, 892, 893, 894, 895, 896, 897, 898] (by decide +kernel) (by decide +kernel)
set_option maxRecDepth 20000 in
theorem gL_law_X10_close : GoodIn wsL_law (wsV RL 65 RX10 yX10_close wsX10_close) := goodIn_app (goodIn_of _ (by decide +kernel)) ggL_law_X10_close
set_option maxRecDepth 20000 in
theorem ggL_law_X9_open : GoodIn wsL_law wsX9_open := goodIn_r _ [471, 16, 120, 411, 21, 472, 426, 427, 31, 428, 133, 62, 473, 474, 475, 476, 477, 478, 479, 480, 134, 135, 136, 20, 137, 138, 139, 92, 91, 14, 15, 140, 141, 142, 143, 26, 27, 28, 11, 12, 29, 30, 32, 33, 34, 35, 36, 37, 38, 39, 40, 41, 42, 43, 44, 45, 46, 47, 48, 49, 50, 51, 52, 53, 54, 55, 56, 57, 58, 59, 60, 61, 63, 64, 65, 66, 67, 68, 69, 70, 71, 72, 73, 74, 75, 76, 77, 78, 79, 80, 81, 82, 83, 84, 85, 86, 87, 144, 145, 146, 147, 148, 149, 150, 151, 152, 153, 154, 155, 156, 157, 158, 159, 160, 161, 162, 163, 164, 165, 166, 167, 168, 169, 170, 171, 172, 173, 174, 175, 176, 177, 178, 179, 180, 181, 182, 183, 184, 185, 186, 187, 188, 880, 881, 882, 883, 884, 899, 900, 901, 902, 903, 904, 905, 906, 907, 908, 909, 917, 918, 919, 920, 921, 922, 923, 924, 910, 911, 912, 925, 926, 927, 928, 929, 930, 931, 932, 933, 934, 935, 936, 937, 938, 939, 940, 941, 942, 943] (by decide +kernel) (by decide +kernel)
set_option maxRecDepth 20000 in
theorem gL_law_X9_open : GoodIn wsL_law (wsV RL 66 RX9 yX9_open wsX9_open) := goodIn_app (goodIn_of _ (by decide +kernel)) ggL_law_X9_open
set_option maxRecDepth 20000 in
theorem ggL_law_X10_open : GoodIn wsL_law wsX10_open := goodIn_r _ [484, 103, 485, 456, 457, 458, 5, 459, 460, 461, 462, 463, 219, 220, 221, 222, 214, 215, 216, 217, 218, 104, 109, 108, 885, 886, 887, 888, 889, 890, 891, 892, 893, 894, 895, 896, 897, 898] (by decide +kernel) (by decide +kernel)
set_option maxRecDepth 20000 in
theorem gL_law_X10_open : GoodIn wsL_law (wsV RL 69 RX10 yX10_open wsX10_open) := goodIn_app (goodIn_of _ (by decide +kernel)) ggL_law_X10_open
set_option maxRecDepth 20000 in
theorem ggL_law_X9_service : GoodIn wsL_law wsX9_service := goodIn_r _ [489, 16, 120, 490, 491, 21, 492, 493, 494, 31, 495, 133, 496, 478, 479, 480, 62, 497, 498, 499, 500, 134, 135, 136, 20, 137, 138, 139, 92, 91, 14, 15, 140, 141, 142, 143, 26, 27, 28, 11, 12, 29, 30, 32, 33, 34, 35, 36, 37, 38, 39, 40, 41, 42, 43, 44, 45, 46, 47, 48, 49, 50, 51, 52, 53, 54, 55, 56, 57, 58, 59, 60, 61, 63, 64, 65, 66, 67, 68, 69, 70, 71, 72, 73, 74, 75, 76, 77, 78, 79, 80, 81, 82, 83, 84, 85, 86, 87, 144, 145, 146, 147, 148, 149, 150, 151, 152, 153, 154, 155, 156, 157, 158, 159, 160, 161, 162, 163, 164, 165, 166, 167, 168, 169, 170, 171, 172, 173, 174, 175, 176, 177, 178, 179, 180, 181, 182, 183, 184, 185, 186, 187, 188, 501, 502, 503, 504, 880, 881, 882, 883, 884, 899, 900, 901, 902, 903, 904, 905, 906, 907, 908, 909, 917, 918, 919, 920, 921, 922, 923, 924, 910, 911, 912, 925, 926, 927, 928, 929, 930, 931, 932, 933, 934, 935, 936, 937, 938, 939, 940, 941, 942, 943] (by decide +kernel) (by decide +kernel)
set_option maxRecDepth 20000 in
theorem gL_law_X9_service : GoodIn wsL_law (wsV RL 70 RX9 yX9_service wsX9_service) := goodIn_app (goodIn_of _ (by decide +kernel)) ggL_law_X9_service
set_option maxRecDepth 20000 in
theorem ggL_law_X10_service : GoodIn wsL_law wsX10_service := goodIn_r _ [508, 295, 296, 297, 5, 298, 103, 206, 207, 208, 460, 461, 462, 463, 219, 220, 221, 222, 214, 215, 216, 217, 218, 104, 109, 108, 223, 224, 225, 226, 885, 886, 887, 888, 889, 890, 891, 892, 893, 894, 895, 896, 897, 898] (by decide +kernel) (by decide +kernel)
set_option maxRecDepth 20000 in
theorem gL_law_X10_service : GoodIn wsL_law (wsV RL 73 RX10 yX10_service wsX10_service) := goodIn_app (goodIn_of _ (by decide +kernel)) ggL_law_X10_service
set_option maxRecDepth 20000 in
theorem ggL_law_X9_pass : GoodIn wsL_law wsX9_pass := goodIn_r _ [512, 21, 16, 121, 122, 2, 123, 134, 135, 136, 20, 137, 138, 139, 92, 91, 14, 15, 140, 141, 142, 143, 26, 27, 28, 11, 12, 29, 30, 31, 32, 33, 34, 35, 36, 37, 38, 39, 40, 41, 42, 43, 44, 45, 46, 47, 48, 49, 50, 51, 52, 53, 54, 55, 56, 57, 58, 59, 60, 61, 62, 63, 64, 65, 66, 67, 68, 69, 70, 71, 72, 73, 74, 75, 76, 77, 78, 79, 80, 81, 82, 83, 84, 85, 86, 87, 144, 145, 146, 147, 148, 149, 150, 151, 152, 153, 154, 155, 156, 157, 158, 133, 159, 160, 161, 162, 163, 164, 165, 166, 167, 168, 169, 170, 171, 172, 173, 174, 175, 176, 177, 178, 179, 180, 181, 182, 183, 184, 185, 186, 187, 188, 513, 514, 515, 516, 517, 518, 519, 520, 521, 474, 475, 476, 477, 478, 479, 480, 522, 523, 524, 525, 526, 527, 528, 529, 530, 498, 499, 500, 531, 532, 533, 534, 535, 536, 537, 538, 433, 434, 435, 436, 437, 438, 439, 126, 440, 359, 441, 442, 443, 444, 445, 446, 447, 539, 540, 541, 542, 543, 544, 545, 546, 547, 548, 549, 550, 551, 552, 553, 554, 555, 556, 557, 558, 559, 560, 561, 562, 563, 564, 565, 566, 567, 568, 569, 570, 571, 572, 573, 574, 575, 576, 577, 578, 579, 580, 581, 582, 583, 584, 585, 586, 587, 588, 589, 880, 881, 882, 883, 884, 910, 911, 912, 899, 900, 901, 902, 903, 904, 905, 906, 907, 908, 909, 917, 918, 919, 920, 921, 922, 923, 924, 925, 926, 927, 928, 929, 930, 931, 932, 933, 934, 935, 936, 937, 938, 939, 940, 941, 942, 943] (by decide +kernel) (by decide +kernel)
set_option maxRecDepth 20000 in
theorem gL_law_X9_pass : GoodIn wsL_law (wsV RL 74 RX9 yX9_pass wsX9_pass) := goodIn_app (goodIn_of _ (by decide +kernel)) ggL_law_X9_pass
set_option maxRecDepth 20000 in
theorem ggL_law_X10_pass : GoodIn wsL_law wsX10_pass := goodIn_r _ [593, 594, 206, 207, 5, 208, 214, 215, 216, 217, 218, 104, 109, 103, 108, 595, 596, 597, 598, 599, 600, 601, 602, 219, 220, 221, 222, 460, 461, 462, 463, 223, 224, 225, 226, 603, 604, 605, 606, 607, 608, 609, 610, 611, 612, 464, 465, 466, 467, 613, 614, 615, 616, 617, 618, 619, 620, 621, 622, 623, 624, 625, 626, 627, 628, 629, 630, 631, 632, 324, 325, 326, 327, 885, 886, 887, 888, 889, 890, 891, 892, 893, 894, 895, 896, 897, 898] (by decide +kernel) (by decide +kernel)
set_option maxRecDepth 20000 in
theorem gL_law_X10_pass : GoodIn wsL_law (wsV RL 77 RX10 yX10_pass wsX10_pass) := goodIn_app (goodIn_of _ (by decide +kernel)) ggL_law_X10_pass
set_option maxRecDepth 20000 in
theorem ggL_law_X9_type : GoodIn wsL_law wsX9_type := goodIn_r _ [636, 25, 637, 638, 639, 24, 640, 641, 642, 643, 644, 645, 97, 880, 881, 882, 883, 884, 913, 914, 915, 916] (by decide +kernel) (by decide +kernel)
set_option maxRecDepth 20000 in
theorem gL_law_X9_type : GoodIn wsL_law (wsV RL 78 RX9 yX9_type wsX9_type) := goodIn_app (goodIn_of _ (by decide +kernel)) ggL_law_X9_type
set_option maxRecDepth 20000 in
theorem ggL_law_X10_type : GoodIn wsL_law wsX10_type := goodIn_r _ [649, 650, 111, 885, 886, 887, 888, 889, 890, 891, 892, 893, 894, 895, 896, 897, 898] (by decide +kernel) (by decide +kernel)
set_option maxRecDepth 20000 in
theorem gL_law_X10_type : GoodIn wsL_law (wsV RL 82 RX10 yX10_type wsX10_type) := goodIn_app (goodIn_of _ (by decide +kernel)) ggL_law_X10_type
set_option maxRecDepth 20000 in
theorem ggL_law_X9_clearText : GoodIn wsL_law wsX9_clearText := goodIn_r _ [654, 25, 655, 656, 657, 24, 658, 641, 880, 881, 882, 883, 884, 913, 914, 915, 916] (by decide +kernel) (by decide +kernel)
set_option maxRecDepth 20000 in
theorem gL_law_X9_clearText : GoodIn wsL_law (wsV RL 83 RX9 yX9_clearText wsX9_clearText) := goodIn_app (goodIn_of _ (by decide +kernel)) ggL_law_X9_clearText
set_option maxRecDepth 20000 in
theorem ggL_law_X10_clearText : GoodIn wsL_law wsX10_clearText := goodIn_r _ [662, 650, 885, 886, 887, 888, 889, 890, 891, 892, 893, 894, 895, 896, 897, 898] (by decide +kernel) (by decide +kernel)
set_option maxRecDepth 20000 in
theorem gL_law_X10_clearText : GoodIn wsL_law (wsV RL 86 RX10 yX10_clearText wsX10_clearText) := goodIn_app (goodIn_of _ (by decide +kernel)) ggL_law_X10_clearText
set_option maxRecDepth 20000 in
theorem ggL_law_X9_readTides : GoodIn wsL_law wsX9_readTides := goodIn_r _ [666, 25, 21, 16, 377, 667, 378, 379, 2, 380, 668, 669, 670, 24, 671, 641, 97, 672, 673, 674, 675, 676, 677, 678, 679, 680, 681, 682, 683, 684, 685, 686, 98, 687, 688, 689, 690, 691, 692, 445, 693, 134, 135, 136, 20, 137, 138, 139, 92, 91, 14, 15, 140, 141, 142, 143, 26, 27, 28, 11, 12, 29, 30, 31, 32, 33, 34, 35, 36, 37, 38, 39, 40, 41, 42, 43, 44, 45, 46, 47, 48, 49, 50, 51, 52, 53, 54, 55, 56, 57, 58, 59, 60, 61, 62, 63, 64, 65, 66, 67, 68, 69, 70, 71, 72, 73, 74, 75, 76, 77, 78, 79, 80, 81, 82, 83, 84, 85, 86, 87, 144, 145, 146, 147, 148, 149, 150, 151, 152, 153, 154, 155, 156, 157, 158, 133, 159, 160, 161, 162, 163, 164, 165, 166, 167, 168, 169, 170, 171, 172, 173, 174, 175, 176, 177, 178, 179, 180, 181, 182, 183, 184, 185, 186, 187, 188, 694, 695, 126, 696, 697, 698, 699, 700, 701, 702, 441, 703, 880, 881, 882, 883, 884, 899, 900, 901, 902, 903, 904, 905, 906, 907, 908, 909, 913, 914, 915, 916, 910, 911, 912, 917, 918, 919, 920, 921, 922, 923, 924, 925, 926, 927, 928, 929, 930, 931, 932, 933, 934, 935, 936, 937, 938, 939, 940, 941, 942, 943] (by decide +kernel) (by decide +kernel)
set_option maxRecDepth 20000 in
theorem gL_law_X9_readTides : GoodIn wsL_law (wsV RL 87 RX9 yX9_readTides wsX9_readTides) := goodIn_app (goodIn_of _ (by decide +kernel)) ggL_law_X9_readTides
set_option maxRecDepth 20000 in
theorem ggL_law_X10_readTides : GoodIn wsL_law wsX10_readTides := goodIn_r _ [707, 385, 708, 709, 650, 112, 108, 198, 206, 207, 5, 208, 710, 711, 712, 713, 111, 714, 715, 716, 717, 718, 719, 720, 721, 594, 722, 214, 215, 216, 217, 218, 104, 109, 103, 885, 886, 887, 888, 889, 890, 891, 892, 893, 894, 895, 896, 897, 898] (by decide +kernel) (by decide +kernel)
set_option maxRecDepth 20000 in
theorem gL_law_X10_readTides : GoodIn wsL_law (wsV RL 90 RX10 yX10_readTides wsX10_readTides) := goodIn_app (goodIn_of _ (by decide +kernel)) ggL_law_X10_readTides
set_option maxRecDepth 20000 in
theorem ggL_law_X9_undo : GoodIn wsL_law wsX9_undo := goodIn_r _ [726, 21, 16, 727, 728, 729, 730, 20, 731, 139, 92, 138, 140, 141, 142, 143, 144, 145, 146, 15, 147, 32, 36, 40, 44, 48, 50, 148, 149, 150, 151, 52, 152, 53, 153, 154, 155, 156, 157, 31, 158, 133, 58, 159, 59, 60, 61, 62, 63, 64, 160, 161, 162, 35, 163, 164, 68, 165, 70, 166, 167, 168, 39, 169, 170, 74, 171, 172, 173, 174, 43, 175, 176, 78, 177, 79, 178, 80, 81, 82, 179, 180, 181, 47, 182, 87, 183, 184, 185, 186, 187, 188, 880, 881, 882, 883, 884, 910, 911, 912, 899, 900, 901, 902, 903, 904, 905, 906, 907, 908, 909, 917, 918, 919, 920, 921, 922, 923, 924, 925, 926, 927, 928, 929, 930, 931, 932, 933, 934, 935, 936, 937, 938, 939, 940, 941, 942, 943] (by decide +kernel) (by decide +kernel)
set_option maxRecDepth 20000 in
theorem gL_law_X9_undo : GoodIn wsL_law (wsV RL 91 RX9 yX9_undo wsX9_undo) := goodIn_app (goodIn_of _ (by decide +kernel)) ggL_law_X9_undo
set_option maxRecDepth 20000 in
theorem ggL_law_X10_undo : GoodIn wsL_law wsX10_undo := goodIn_r _ [735, 218, 103, 104, 108, 109, 885, 886, 887, 888, 889, 890, 891, 892, 893, 894, 895, 896, 897, 898] (by decide +kernel) (by decide +kernel)
set_option maxRecDepth 20000 in
theorem gL_law_X10_undo : GoodIn wsL_law (wsV RL 94 RX10 yX10_undo wsX10_undo) := goodIn_app (goodIn_of _ (by decide +kernel)) ggL_law_X10_undo
set_option maxRecDepth 20000 in
theorem ggL_law_X9_keep : GoodIn wsL_law wsX9_keep := goodIn_r _ [739, 740, 13, 14, 15, 16, 741, 26, 27, 28, 11, 12, 29, 30, 31, 32, 33, 34, 35, 36, 37, 38, 39, 40, 41, 42, 43, 44, 45, 46, 47, 48, 49, 50, 51, 52, 53, 54, 55, 56, 57, 58, 59, 60, 61, 62, 63, 64, 65, 66, 67, 68, 69, 70, 71, 72, 73, 74, 75, 76, 77, 78, 79, 80, 81, 82, 83, 84, 85, 86, 87, 742, 145, 146, 147, 148, 149, 150, 151, 152, 153, 154, 155, 156, 157, 158, 133, 159, 160, 161, 162, 163, 164, 165, 166, 167, 168, 169, 170, 171, 172, 173, 174, 175, 176, 177, 178, 179, 180, 181, 182, 183, 184, 185, 186, 187, 188, 880, 881, 882, 883, 884, 899, 900, 901, 902, 903, 904, 905, 906, 907, 908, 909, 917, 918, 919, 920, 921, 922, 923, 924, 925, 926, 927, 928, 929, 930, 931, 932, 933, 934, 935, 936, 937, 938, 939, 940, 941, 942, 943] (by decide +kernel) (by decide +kernel)
set_option maxRecDepth 20000 in
theorem gL_law_X9_keep : GoodIn wsL_law (wsV RL 95 RX9 yX9_keep wsX9_keep) := goodIn_app (goodIn_of _ (by decide +kernel)) ggL_law_X9_keep
set_option maxRecDepth 20000 in
theorem ggL_law_X10_keep : GoodIn wsL_law wsX10_keep := goodIn_r _ [746, 105, 103, 110, 108, 747, 219, 220, 221, 5, 222, 885, 886, 887, 888, 889, 890, 891, 892, 893, 894, 895, 896, 897, 898] (by decide +kernel) (by decide +kernel)
set_option maxRecDepth 20000 in
theorem gL_law_X10_keep : GoodIn wsL_law (wsV RL 98 RX10 yX10_keep wsX10_keep) := goodIn_app (goodIn_of _ (by decide +kernel)) ggL_law_X10_keep
set_option maxRecDepth 20000 in
theorem ggL_law_X9_restore : GoodIn wsL_law wsX9_restore := goodIn_r _ [751, 740, 21, 16, 741, 134, 135, 136, 20, 137, 138, 139, 92, 91, 14, 15, 140, 141, 142, 143, 26, 27, 28, 11, 12, 29, 30, 31, 32, 33, 34, 35, 36, 37, 38, 39, 40, 41, 42, 43, 44, 45, 46, 47, 48, 49, 50, 51, 52, 53, 54, 55, 56, 57, 58, 59, 60, 61, 62, 63, 64, 65, 66, 67, 68, 69, 70, 71, 72, 73, 74, 75, 76, 77, 78, 79, 80, 81, 82, 83, 84, 85, 86, 87, 144, 145, 146, 147, 148, 149, 150, 151, 152, 153, 154, 155, 156, 157, 158, 133, 159, 160, 161, 162, 163, 164, 165, 166, 167, 168, 169, 170, 171, 172, 173, 174, 175, 176, 177, 178, 179, 180, 181, 182, 183, 184, 185, 186, 187, 188, 742, 880, 881, 882, 883, 884, 899, 900, 901, 902, 903, 904, 905, 906, 907, 908, 909, 910, 911, 912, 917, 918, 919, 920, 921, 922, 923, 924, 925, 926, 927, 928, 929, 930, 931, 932, 933, 934, 935, 936, 937, 938, 939, 940, 941, 942, 943] (by decide +kernel) (by decide +kernel)
set_option maxRecDepth 20000 in
theorem gL_law_X9_restore : GoodIn wsL_law (wsV RL 99 RX9 yX9_restore wsX9_restore) := goodIn_app (goodIn_of _ (by decide +kernel)) ggL_law_X9_restore
set_option maxRecDepth 20000 in
theorem ggL_law_X10_restore : GoodIn wsL_law wsX10_restore := goodIn_r _ [755, 747, 103, 105, 108, 110, 214, 215, 216, 5, 217, 218, 104, 109, 219, 220, 221, 222, 885, 886, 887, 888, 889, 890, 891, 892, 893, 894, 895, 896, 897, 898] (by decide +kernel) (by decide +kernel)
set_option maxRecDepth 20000 in
theorem gL_law_X10_restore : GoodIn wsL_law (wsV RL 102 RX10 yX10_restore wsX10_restore) := goodIn_app (goodIn_of _ (by decide +kernel)) ggL_law_X10_restore
set_option maxRecDepth 20000 in
theorem ggL_law_X9_section : GoodIn wsL_law wsX9_section := goodIn_r _ [759, 16, 120, 760, 761, 762, 491, 763, 490, 492, 493, 494, 31, 495, 133, 496, 478, 479, 480, 62, 880, 881, 882, 883, 884, 899, 900, 901, 902, 903, 904, 905, 906, 907, 908, 909, 917, 918, 919, 920, 921, 922, 923, 924] (by decide +kernel) (by decide +kernel)
set_option maxRecDepth 20000 in
theorem gL_law_X9_section : GoodIn wsL_law (wsV RL 103 RX9 yX9_section wsX9_section) := goodIn_app (goodIn_of _ (by decide +kernel)) ggL_law_X9_section
set_option maxRecDepth 20000 in
theorem ggL_law_X10_section : GoodIn wsL_law wsX10_section := goodIn_r _ [767, 103, 295, 296, 297, 5, 298, 206, 207, 208, 460, 461, 462, 463, 219, 220, 221, 222, 885, 886, 887, 888, 889, 890, 891, 892, 893, 894, 895, 896, 897, 898] (by decide +kernel) (by decide +kernel)
set_option maxRecDepth 20000 in
theorem gL_law_X10_section : GoodIn wsL_law (wsV RL 106 RX10 yX10_section wsX10_section) := goodIn_app (goodIn_of _ (by decide +kernel)) ggL_law_X10_section
set_option maxRecDepth 20000 in
theorem ggL_law_X9_pump : GoodIn wsL_law wsX9_pump := goodIn_r _ [771, 16, 269, 772, 773, 307, 774, 308, 309, 310, 43, 311, 176, 775, 776, 777, 778, 79, 577, 578, 579, 580, 81, 78, 880, 881, 882, 883, 884, 899, 900, 901, 902, 903, 904, 905, 906, 907, 908, 909, 930, 931, 932, 933, 934, 935, 936] (by decide +kernel) (by decide +kernel)
set_option maxRecDepth 20000 in
theorem gL_law_X9_pump : GoodIn wsL_law (wsV RL 107 RX9 yX9_pump wsX9_pump) := goodIn_app (goodIn_of _ (by decide +kernel)) ggL_law_X9_pump
set_option maxRecDepth 20000 in
theorem ggL_law_X10_pump : GoodIn wsL_law wsX10_pump := goodIn_r _ [782, 295, 296, 297, 5, 298, 103, 206, 207, 208, 324, 325, 326, 327, 219, 220, 221, 222, 629, 630, 631, 632, 885, 886, 887, 888, 889, 890, 891, 892, 893, 894, 895, 896, 897, 898] (by decide +kernel) (by decide +kernel)
set_option maxRecDepth 20000 in
theorem gL_law_X10_pump : GoodIn wsL_law (wsV RL 110 RX10 yX10_pump wsX10_pump) := goodIn_app (goodIn_of _ (by decide +kernel)) ggL_law_X10_pump
set_option maxRecDepth 20000 in
theorem ggL_law_X9_level : GoodIn wsL_law wsX9_level := goodIn_r _ [786, 16, 337, 355, 787, 788, 434, 435, 15, 436, 50, 152, 437, 141, 142, 143, 438, 439, 126, 440, 359, 441, 442, 443, 444, 445, 446, 447, 789, 546, 547, 47, 548, 183, 87, 790, 880, 881, 882, 883, 884, 899, 900, 901, 902, 903, 904, 905, 906, 907, 908, 909, 937, 938, 939, 940, 941, 942, 943] (by decide +kernel) (by decide +kernel)
set_option maxRecDepth 20000 in
theorem gL_law_X9_level : GoodIn wsL_law (wsV RL 111 RX9 yX9_level wsX9_level) := goodIn_app (goodIn_of _ (by decide +kernel)) ggL_law_X9_level
set_option maxRecDepth 20000 in
theorem ggL_law_X10_level : GoodIn wsL_law wsX10_level := goodIn_r _ [794, 108, 464, 465, 466, 5, 467, 219, 220, 221, 222, 103, 613, 614, 615, 616, 795, 796, 797, 798, 885, 886, 887, 888, 889, 890, 891, 892, 893, 894, 895, 896, 897, 898] (by decide +kernel) (by decide +kernel)
set_option maxRecDepth 20000 in
theorem gL_law_X10_level : GoodIn wsL_law (wsV RL 115 RX10 yX10_level wsX10_level) := goodIn_app (goodIn_of _ (by decide +kernel)) ggL_law_X10_level
set_option maxRecDepth 20000 in
theorem ggL_law_X9_water : GoodIn wsL_law wsX9_water := goodIn_r _ [802, 16, 337, 803, 804, 805, 806, 807, 808, 809, 880, 881, 882, 883, 884, 899, 900, 901, 902, 903, 904, 905, 906, 907, 908, 909, 937, 938, 939, 940, 941, 942, 943] (by decide +kernel) (by decide +kernel)
set_option maxRecDepth 20000 in
theorem gL_law_X9_water : GoodIn wsL_law (wsV RL 116 RX9 yX9_water wsX9_water) := goodIn_app (goodIn_of _ (by decide +kernel)) ggL_law_X9_water
set_option maxRecDepth 20000 in
theorem ggL_law_X10_water : GoodIn wsL_law wsX10_water := goodIn_r _ [813, 814, 103, 815, 206, 207, 5, 208, 885, 886, 887, 888, 889, 890, 891, 892, 893, 894, 895, 896, 897, 898] (by decide +kernel) (by decide +kernel)
set_option maxRecDepth 20000 in
theorem gL_law_X10_water : GoodIn wsL_law (wsV RL 120 RX10 yX10_water wsX10_water) := goodIn_app (goodIn_of _ (by decide +kernel)) ggL_law_X10_water
set_option maxRecDepth 20000 in
theorem ggL_law_X9_forecast : GoodIn wsL_law wsX9_forecast := goodIn_r _ [819, 787, 17, 16, 337, 121, 122, 2, 123, 742, 145, 146, 15, 147, 32, 36, 40, 44, 48, 50, 148, 149, 150, 151, 52, 152, 53, 153, 154, 155, 156, 157, 31, 158, 133, 58, 159, 59, 60, 61, 62, 63, 64, 160, 161, 162, 35, 163, 164, 68, 165, 70, 166, 167, 168, 39, 169, 170, 74, 171, 172, 173, 174, 43, 175, 176, 78, 177, 79, 178, 80, 81, 82, 179, 180, 181, 47, 182, 87, 183, 184, 185, 186, 187, 188, 513, 514, 515, 516, 517, 518, 519, 520, 521, 474, 475, 476, 477, 478, 479, 480, 522, 523, 524, 525, 526, 527, 528, 529, 530, 498, 499, 500, 531, 532, 533, 534, 535, 536, 537, 538, 433, 434, 435, 436, 437, 141, 142, 143, 438, 439, 126, 440, 359, 441, 442, 443, 444, 445, 446, 447, 539, 540, 541, 542, 543, 544, 545, 546, 547, 548, 549, 550, 551, 552, 553, 554, 555, 556, 557, 558, 559, 560, 561, 562, 563, 564, 565, 566, 567, 568, 569, 570, 571, 572, 573, 574, 575, 576, 577, 578, 579, 580, 581, 582, 583, 584, 585, 586, 587, 588, 589, 789, 880, 881, 882, 883, 884, 899, 900, 901, 902, 903, 904, 905, 906, 907, 908, 909, 917, 918, 919, 920, 921, 922, 923, 924, 925, 926, 927, 928, 929, 930, 931, 932, 933, 934, 935, 936, 937, 938, 939, 940, 941, 942, 943] (by decide +kernel) (by decide +kernel)
set_option maxRecDepth 20000 in
theorem gL_law_X9_forecast : GoodIn wsL_law (wsV RL 121 RX9 yX9_forecast wsX9_forecast) := goodIn_app (goodIn_of _ (by decide +kernel)) ggL_law_X9_forecast
set_option maxRecDepth 20000 in
theorem ggL_law_X10_forecast : GoodIn wsL_law wsX10_forecast := goodIn_r _ [823, 594, 206, 207, 5, 208, 795, 796, 797, 798, 824, 825, 826, 827, 106, 103, 595, 596, 597, 598, 599, 600, 601, 602, 219, 220, 221, 222, 460, 461, 462, 463, 223, 224, 225, 226, 603, 604, 605, 606, 607, 608, 609, 610, 611, 108, 612, 464, 465, 466, 467, 613, 614, 615, 616, 617, 618, 619, 620, 621, 622, 623, 624, 625, 626, 627, 628, 629, 630, 631, 632, 324, 325, 326, 327, 828, 829, 830, 831, 885, 886, 887, 888, 889, 890, 891, 892, 893, 894, 895, 896, 897, 898] (by decide +kernel) (by decide +kernel)
set_option maxRecDepth 20000 in
theorem gL_law_X10_forecast : GoodIn wsL_law (wsV RL 124 RX10 yX10_forecast wsX10_forecast) := goodIn_app (goodIn_of _ (by decide +kernel)) ggL_law_X10_forecast
set_option maxRecDepth 20000 in
theorem ggL_law_X9_shutIn : GoodIn wsL_law wsX9_shutIn := goodIn_r _ [835, 17, 16, 120, 742, 145, 146, 15, 147, 32, 36, 40, 44, 48, 50, 148, 149, 150, 151, 52, 152, 53, 153, 154, 155, 156, 157, 31, 158, 133, 58, 159, 59, 60, 61, 62, 63, 64, 160, 161, 162, 35, 163, 164, 68, 165, 70, 166, 167, 168, 39, 169, 170, 74, 171, 172, 173, 174, 43, 175, 176, 78, 177, 79, 178, 80, 81, 82, 179, 180, 181, 47, 182, 87, 183, 184, 185, 186, 187, 188, 421, 422, 423, 424, 425, 426, 427, 428, 513, 514, 515, 516, 517, 518, 519, 520, 521, 474, 475, 476, 477, 478, 479, 480, 522, 523, 524, 525, 526, 527, 528, 529, 530, 498, 499, 500, 531, 532, 533, 534, 535, 536, 537, 538, 433, 434, 435, 436, 437, 141, 142, 143, 438, 439, 126, 440, 359, 441, 442, 443, 444, 445, 446, 447, 539, 540, 541, 542, 543, 544, 545, 546, 547, 548, 549, 550, 551, 552, 553, 554, 555, 556, 557, 558, 559, 560, 561, 562, 563, 564, 565, 566, 567, 568, 569, 570, 571, 572, 573, 574, 575, 576, 577, 578, 579, 580, 581, 582, 583, 584, 585, 586, 587, 588, 589, 880, 881, 882, 883, 884, 899, 900, 901, 902, 903, 904, 905, 906, 907, 908, 909, 917, 918, 919, 920, 921, 922, 923, 924, 925, 926, 927, 928, 929, 930, 931, 932, 933, 934, 935, 936, 937, 938, 939, 940, 941, 942, 943] (by decide +kernel) (by decide +kernel)
set_option maxRecDepth 20000 in
theorem gL_law_X9_shutIn : GoodIn wsL_law (wsV RL 125 RX9 yX9_shutIn wsX9_shutIn) := goodIn_app (goodIn_of _ (by decide +kernel)) ggL_law_X9_shutIn
set_option maxRecDepth 20000 in
theorem ggL_law_X10_shutIn : GoodIn wsL_law wsX10_shutIn := goodIn_r _ [839, 824, 825, 826, 5, 827, 106, 103, 452, 453, 454, 455, 456, 457, 458, 459, 460, 461, 462, 463, 219, 220, 221, 222, 595, 596, 597, 598, 599, 600, 601, 602, 223, 224, 225, 226, 603, 604, 605, 606, 607, 608, 609, 610, 611, 108, 612, 464, 465, 466, 467, 613, 614, 615, 616, 617, 618, 619, 620, 621, 622, 623, 624, 625, 626, 627, 628, 629, 630, 631, 632, 324, 325, 326, 327, 828, 829, 830, 831, 885, 886, 887, 888, 889, 890, 891, 892, 893, 894, 895, 896, 897, 898] (by decide +kernel) (by decide +kernel)
set_option maxRecDepth 20000 in
theorem gL_law_X10_shutIn : GoodIn wsL_law (wsV RL 128 RX10 yX10_shutIn wsX10_shutIn) := goodIn_app (goodIn_of _ (by decide +kernel)) ggL_law_X10_shutIn
set_option maxRecDepth 20000 in
theorem ggL_law_X9_tide : GoodIn wsL_law wsX9_tide := goodIn_r _ [843, 16, 377, 809, 378, 379, 2, 380, 880, 881, 882, 883, 884, 899, 900, 901, 902, 903, 904, 905, 906, 907, 908, 909] (by decide +kernel) (by decide +kernel)
set_option maxRecDepth 20000 in
theorem gL_law_X9_tide : GoodIn wsL_law (wsV RL 129 RX9 yX9_tide wsX9_tide) := goodIn_app (goodIn_of _ (by decide +kernel)) ggL_law_X9_tide
set_option maxRecDepth 20000 in
theorem ggL_law_X10_tide : GoodIn wsL_law wsX10_tide := goodIn_r _ [847, 385, 108, 815, 206, 207, 5, 208, 848, 849, 850, 851, 852, 853, 854, 205, 855, 856, 857, 858, 885, 886, 887, 888, 889, 890, 891, 892, 893, 894, 895, 896, 897, 898] (by decide +kernel) (by decide +kernel)
set_option maxRecDepth 20000 in
theorem gL_law_X10_tide : GoodIn wsL_law (wsV RL 132 RX10 yX10_tide wsX10_tide) := goodIn_app (goodIn_of _ (by decide +kernel)) ggL_law_X10_tide
set_option maxRecDepth 20000 in
theorem ggL_law_X9_count : GoodIn wsL_law wsX9_count := goodIn_r _ [862, 16, 741, 411, 120, 231, 863, 864, 337, 338, 269, 343, 473, 474, 475, 31, 476, 133, 477, 478, 479, 480, 62, 472, 426, 427, 428, 395, 396, 397, 35, 398, 164, 70, 68, 865, 418, 419, 420, 866, 867, 868, 2, 869, 870, 871, 250, 872, 873, 21, 727, 25, 874, 875, 880, 881, 882, 883, 884, 899, 900, 901, 902, 903, 904, 905, 906, 907, 908, 909, 937, 938, 939, 940, 941, 942, 943, 930, 931, 932, 933, 934, 935, 936, 917, 918, 919, 920, 921, 922, 923, 924, 925, 926, 927, 928, 929, 910, 911, 912, 913, 914, 915, 916] (by decide +kernel) (by decide +kernel)
set_option maxRecDepth 20000 in
theorem gL_law_X9_count : GoodIn wsL_law (wsV RL 133 RX9 yX9_count wsX9_count) := goodIn_app (goodIn_of _ (by decide +kernel)) ggL_law_X9_count
set_option maxRecDepth 20000 in
theorem ggL_law_X10_count : GoodIn wsL_law wsX10_count := goodIn_r _ [879, 103, 218, 650, 219, 220, 221, 5, 222, 456, 457, 458, 459, 460, 461, 462, 463, 403, 404, 405, 406, 885, 886, 887, 888, 889, 890, 891, 892, 893, 894, 895, 896, 897, 898] (by decide +kernel) (by decide +kernel)
set_option maxRecDepth 20000 in
theorem gL_law_X10_count : GoodIn wsL_law (wsV RL 136 RX10 yX10_count wsX10_count) := goodIn_app (goodIn_of _ (by decide +kernel)) ggL_law_X10_count
